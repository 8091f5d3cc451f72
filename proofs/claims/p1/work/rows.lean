section
-- ===== PART A: goes FIRST, ahead of the names: the tables' words, and 'selects' of the private methods out of them =====
/-- a private method of a class that the tables say can be made, by its rows of tables_1 -/
def lw_okq (q : MethodName × Nat) : Prop := (q.1.cls ≠ "java/lang/invoke/MethodHandle" ∧ q.1.cls ≠ "java/lang/invoke/VarHandle") ∧ Cond.instantiable q.1.cls q.2 ∈ tables_1 ∧ Cond.privateMethod q.1 ∈ tables_1 ∧ Cond.instanceMethod q.1 ∈ tables_1
theorem lw_p0 : lw_okq (⟨"java/lang/Throwable", "fillInStackTrace", "(I)Ljava/lang/Throwable;"⟩, 6) := ⟨⟨by decide +kernel, by decide +kernel⟩, List.mem_of_getElem? (i := 176) (by decide +kernel), List.mem_of_getElem? (i := 174) (by decide +kernel), List.mem_of_getElem? (i := 175) (by decide +kernel)⟩
theorem lw_p1 : lw_okq (⟨"java/util/ArrayList", "add", "(Ljava/lang/Object;[Ljava/lang/Object;I)V"⟩, 3) := ⟨⟨by decide +kernel, by decide +kernel⟩, List.mem_of_getElem? (i := 518) (by decide +kernel), List.mem_of_getElem? (i := 610) (by decide +kernel), List.mem_of_getElem? (i := 611) (by decide +kernel)⟩
theorem lw_p2 : lw_okq (⟨"java/util/ArrayList", "grow", "()[Ljava/lang/Object;"⟩, 3) := ⟨⟨by decide +kernel, by decide +kernel⟩, List.mem_of_getElem? (i := 518) (by decide +kernel), List.mem_of_getElem? (i := 614) (by decide +kernel), List.mem_of_getElem? (i := 615) (by decide +kernel)⟩
theorem lw_p3 : lw_okq (⟨"java/util/ArrayList", "grow", "(I)[Ljava/lang/Object;"⟩, 3) := ⟨⟨by decide +kernel, by decide +kernel⟩, List.mem_of_getElem? (i := 518) (by decide +kernel), List.mem_of_getElem? (i := 618) (by decide +kernel), List.mem_of_getElem? (i := 619) (by decide +kernel)⟩
theorem lw_p4 : lw_okq (⟨"TypeFinder$Writer", "put", "(LTypeFinder$Type;I)V"⟩, 2) := ⟨⟨by decide +kernel, by decide +kernel⟩, List.mem_of_getElem? (i := 748) (by decide +kernel), List.mem_of_getElem? (i := 896) (by decide +kernel), List.mem_of_getElem? (i := 897) (by decide +kernel)⟩
theorem lw_p5 : lw_okq (⟨"TypeFinder$Writer", "putBracketed", "(LTypeFinder$Type;ZI)V"⟩, 2) := ⟨⟨by decide +kernel, by decide +kernel⟩, List.mem_of_getElem? (i := 748) (by decide +kernel), List.mem_of_getElem? (i := 907) (by decide +kernel), List.mem_of_getElem? (i := 908) (by decide +kernel)⟩
theorem lw_p6 : lw_okq (⟨"TypeFinder$Writer", "putWord", "(J)V"⟩, 2) := ⟨⟨by decide +kernel, by decide +kernel⟩, List.mem_of_getElem? (i := 748) (by decide +kernel), List.mem_of_getElem? (i := 926) (by decide +kernel), List.mem_of_getElem? (i := 927) (by decide +kernel)⟩
theorem lw_p7 : lw_okq (⟨"TypeFinder$Writer", "putParameter", "(LTypeFinder$Type;I)V"⟩, 2) := ⟨⟨by decide +kernel, by decide +kernel⟩, List.mem_of_getElem? (i := 748) (by decide +kernel), List.mem_of_getElem? (i := 931) (by decide +kernel), List.mem_of_getElem? (i := 932) (by decide +kernel)⟩
theorem lw_p8 : lw_okq (⟨"TypeFinder$Writer", "putVariable", "(LTypeFinder$Type;)V"⟩, 2) := ⟨⟨by decide +kernel, by decide +kernel⟩, List.mem_of_getElem? (i := 748) (by decide +kernel), List.mem_of_getElem? (i := 935) (by decide +kernel), List.mem_of_getElem? (i := 936) (by decide +kernel)⟩
theorem lw_p9 : lw_okq (⟨"TypeFinder", "takeDraft", "()I"⟩, 9) := ⟨⟨by decide +kernel, by decide +kernel⟩, List.mem_of_getElem? (i := 40) (by decide +kernel), List.mem_of_getElem? (i := 1041) (by decide +kernel), List.mem_of_getElem? (i := 1042) (by decide +kernel)⟩
theorem lw_p10 : lw_okq (⟨"TypeFinder$Tokens", "readLetters", "([CII)I"⟩, 5) := ⟨⟨by decide +kernel, by decide +kernel⟩, List.mem_of_getElem? (i := 54) (by decide +kernel), List.mem_of_getElem? (i := 1059) (by decide +kernel), List.mem_of_getElem? (i := 1060) (by decide +kernel)⟩
theorem lw_p11 : lw_okq (⟨"TypeFinder$Tokens", "wordKind", "(J)I"⟩, 5) := ⟨⟨by decide +kernel, by decide +kernel⟩, List.mem_of_getElem? (i := 54) (by decide +kernel), List.mem_of_getElem? (i := 1074) (by decide +kernel), List.mem_of_getElem? (i := 1075) (by decide +kernel)⟩
theorem lw_p12 : lw_okq (⟨"TypeFinder$Tokens", "put", "(IJ)V"⟩, 5) := ⟨⟨by decide +kernel, by decide +kernel⟩, List.mem_of_getElem? (i := 54) (by decide +kernel), List.mem_of_getElem? (i := 1078) (by decide +kernel), List.mem_of_getElem? (i := 1079) (by decide +kernel)⟩
theorem lw_p13 : lw_okq (⟨"TypeFinder$Tokens", "readDigits", "([CII)I"⟩, 5) := ⟨⟨by decide +kernel, by decide +kernel⟩, List.mem_of_getElem? (i := 54) (by decide +kernel), List.mem_of_getElem? (i := 1085) (by decide +kernel), List.mem_of_getElem? (i := 1086) (by decide +kernel)⟩
theorem lw_p14 : lw_okq (⟨"TypeFinder$Tokens", "readSign", "(C)V"⟩, 5) := ⟨⟨by decide +kernel, by decide +kernel⟩, List.mem_of_getElem? (i := 54) (by decide +kernel), List.mem_of_getElem? (i := 1090) (by decide +kernel), List.mem_of_getElem? (i := 1091) (by decide +kernel)⟩
theorem lw_p15 : lw_okq (⟨"TypeFinder$DataParser", "alternative", "()LTypeFinder$Node;"⟩, 1) := ⟨⟨by decide +kernel, by decide +kernel⟩, List.mem_of_getElem? (i := 440) (by decide +kernel), List.mem_of_getElem? (i := 1162) (by decide +kernel), List.mem_of_getElem? (i := 1163) (by decide +kernel)⟩
def lw_privs_1 : List (MethodName × Nat) := [(⟨"java/lang/Throwable", "fillInStackTrace", "(I)Ljava/lang/Throwable;"⟩, 6), (⟨"java/util/ArrayList", "add", "(Ljava/lang/Object;[Ljava/lang/Object;I)V"⟩, 3), (⟨"java/util/ArrayList", "grow", "()[Ljava/lang/Object;"⟩, 3), (⟨"java/util/ArrayList", "grow", "(I)[Ljava/lang/Object;"⟩, 3), (⟨"TypeFinder$Writer", "put", "(LTypeFinder$Type;I)V"⟩, 2), (⟨"TypeFinder$Writer", "putBracketed", "(LTypeFinder$Type;ZI)V"⟩, 2), (⟨"TypeFinder$Writer", "putWord", "(J)V"⟩, 2), (⟨"TypeFinder$Writer", "putParameter", "(LTypeFinder$Type;I)V"⟩, 2), (⟨"TypeFinder$Writer", "putVariable", "(LTypeFinder$Type;)V"⟩, 2), (⟨"TypeFinder", "takeDraft", "()I"⟩, 9), (⟨"TypeFinder$Tokens", "readLetters", "([CII)I"⟩, 5), (⟨"TypeFinder$Tokens", "wordKind", "(J)I"⟩, 5), (⟨"TypeFinder$Tokens", "put", "(IJ)V"⟩, 5), (⟨"TypeFinder$Tokens", "readDigits", "([CII)I"⟩, 5), (⟨"TypeFinder$Tokens", "readSign", "(C)V"⟩, 5), (⟨"TypeFinder$DataParser", "alternative", "()LTypeFinder$Node;"⟩, 1)]
theorem lw_r1 : ∀ q ∈ lw_privs_1, lw_okq q := List.forall_mem_cons.mpr ⟨lw_p0, List.forall_mem_cons.mpr ⟨lw_p1, List.forall_mem_cons.mpr ⟨lw_p2, List.forall_mem_cons.mpr ⟨lw_p3, List.forall_mem_cons.mpr ⟨lw_p4, List.forall_mem_cons.mpr ⟨lw_p5, List.forall_mem_cons.mpr ⟨lw_p6, List.forall_mem_cons.mpr ⟨lw_p7, List.forall_mem_cons.mpr ⟨lw_p8, List.forall_mem_cons.mpr ⟨lw_p9, List.forall_mem_cons.mpr ⟨lw_p10, List.forall_mem_cons.mpr ⟨lw_p11, List.forall_mem_cons.mpr ⟨lw_p12, List.forall_mem_cons.mpr ⟨lw_p13, List.forall_mem_cons.mpr ⟨lw_p14, List.forall_mem_cons.mpr ⟨lw_p15, fun _ h => absurd h List.not_mem_nil⟩⟩⟩⟩⟩⟩⟩⟩⟩⟩⟩⟩⟩⟩⟩⟩
theorem lw_p16 : lw_okq (⟨"TypeFinder$DataParser", "typeAtom", "(I)LTypeFinder$Node;"⟩, 1) := ⟨⟨by decide +kernel, by decide +kernel⟩, List.mem_of_getElem? (i := 440) (by decide +kernel), List.mem_of_getElem? (i := 1173) (by decide +kernel), List.mem_of_getElem? (i := 1174) (by decide +kernel)⟩
theorem lw_p17 : lw_okq (⟨"TypeFinder$DataParser", "wholeType", "(I)LTypeFinder$Node;"⟩, 1) := ⟨⟨by decide +kernel, by decide +kernel⟩, List.mem_of_getElem? (i := 440) (by decide +kernel), List.mem_of_getElem? (i := 1178) (by decide +kernel), List.mem_of_getElem? (i := 1179) (by decide +kernel)⟩
theorem lw_p18 : lw_okq (⟨"TypeFinder$Parser", "operatorDefinition", "()LTypeFinder$Node;"⟩, 4) := ⟨⟨by decide +kernel, by decide +kernel⟩, List.mem_of_getElem? (i := 48) (by decide +kernel), List.mem_of_getElem? (i := 1191) (by decide +kernel), List.mem_of_getElem? (i := 1192) (by decide +kernel)⟩
theorem lw_p19 : lw_okq (⟨"TypeFinder$Parser", "expression", "(I)LTypeFinder$Node;"⟩, 4) := ⟨⟨by decide +kernel, by decide +kernel⟩, List.mem_of_getElem? (i := 48) (by decide +kernel), List.mem_of_getElem? (i := 1199) (by decide +kernel), List.mem_of_getElem? (i := 1200) (by decide +kernel)⟩
theorem lw_p20 : lw_okq (⟨"TypeFinder$Parser", "function", "(I)LTypeFinder$Node;"⟩, 4) := ⟨⟨by decide +kernel, by decide +kernel⟩, List.mem_of_getElem? (i := 48) (by decide +kernel), List.mem_of_getElem? (i := 1205) (by decide +kernel), List.mem_of_getElem? (i := 1206) (by decide +kernel)⟩
theorem lw_p21 : lw_okq (⟨"TypeFinder$Parser", "let", "(I)LTypeFinder$Node;"⟩, 4) := ⟨⟨by decide +kernel, by decide +kernel⟩, List.mem_of_getElem? (i := 48) (by decide +kernel), List.mem_of_getElem? (i := 1210) (by decide +kernel), List.mem_of_getElem? (i := 1211) (by decide +kernel)⟩
theorem lw_p22 : lw_okq (⟨"TypeFinder$Parser", "definition", "(I)LTypeFinder$Node;"⟩, 4) := ⟨⟨by decide +kernel, by decide +kernel⟩, List.mem_of_getElem? (i := 48) (by decide +kernel), List.mem_of_getElem? (i := 1214) (by decide +kernel), List.mem_of_getElem? (i := 1215) (by decide +kernel)⟩
theorem lw_p23 : lw_okq (⟨"TypeFinder$Parser", "choice", "(I)LTypeFinder$Node;"⟩, 4) := ⟨⟨by decide +kernel, by decide +kernel⟩, List.mem_of_getElem? (i := 48) (by decide +kernel), List.mem_of_getElem? (i := 1219) (by decide +kernel), List.mem_of_getElem? (i := 1220) (by decide +kernel)⟩
theorem lw_p24 : lw_okq (⟨"TypeFinder$Parser", "cases", "(I)LTypeFinder$Node;"⟩, 4) := ⟨⟨by decide +kernel, by decide +kernel⟩, List.mem_of_getElem? (i := 48) (by decide +kernel), List.mem_of_getElem? (i := 1223) (by decide +kernel), List.mem_of_getElem? (i := 1224) (by decide +kernel)⟩
theorem lw_p25 : lw_okq (⟨"TypeFinder$Parser", "pattern", "()LTypeFinder$Node;"⟩, 4) := ⟨⟨by decide +kernel, by decide +kernel⟩, List.mem_of_getElem? (i := 48) (by decide +kernel), List.mem_of_getElem? (i := 1227) (by decide +kernel), List.mem_of_getElem? (i := 1228) (by decide +kernel)⟩
theorem lw_p26 : lw_okq (⟨"TypeFinder$Parser", "name", "()J"⟩, 4) := ⟨⟨by decide +kernel, by decide +kernel⟩, List.mem_of_getElem? (i := 48) (by decide +kernel), List.mem_of_getElem? (i := 1231) (by decide +kernel), List.mem_of_getElem? (i := 1232) (by decide +kernel)⟩
theorem lw_p27 : lw_okq (⟨"TypeFinder$Parser", "startsName", "()Z"⟩, 4) := ⟨⟨by decide +kernel, by decide +kernel⟩, List.mem_of_getElem? (i := 48) (by decide +kernel), List.mem_of_getElem? (i := 1235) (by decide +kernel), List.mem_of_getElem? (i := 1236) (by decide +kernel)⟩
theorem lw_p28 : lw_okq (⟨"TypeFinder$Parser", "chain", "(I)LTypeFinder$Node;"⟩, 4) := ⟨⟨by decide +kernel, by decide +kernel⟩, List.mem_of_getElem? (i := 48) (by decide +kernel), List.mem_of_getElem? (i := 1244) (by decide +kernel), List.mem_of_getElem? (i := 1245) (by decide +kernel)⟩
theorem lw_p29 : lw_okq (⟨"TypeFinder$Parser", "application", "(I)LTypeFinder$Node;"⟩, 4) := ⟨⟨by decide +kernel, by decide +kernel⟩, List.mem_of_getElem? (i := 48) (by decide +kernel), List.mem_of_getElem? (i := 1248) (by decide +kernel), List.mem_of_getElem? (i := 1249) (by decide +kernel)⟩
theorem lw_p30 : lw_okq (⟨"TypeFinder$Parser", "atom", "(I)LTypeFinder$Node;"⟩, 4) := ⟨⟨by decide +kernel, by decide +kernel⟩, List.mem_of_getElem? (i := 48) (by decide +kernel), List.mem_of_getElem? (i := 1252) (by decide +kernel), List.mem_of_getElem? (i := 1253) (by decide +kernel)⟩
theorem lw_p31 : lw_okq (⟨"TypeFinder$Parser", "startsAtom", "()Z"⟩, 4) := ⟨⟨by decide +kernel, by decide +kernel⟩, List.mem_of_getElem? (i := 48) (by decide +kernel), List.mem_of_getElem? (i := 1256) (by decide +kernel), List.mem_of_getElem? (i := 1257) (by decide +kernel)⟩
def lw_privs_2 : List (MethodName × Nat) := [(⟨"TypeFinder$DataParser", "typeAtom", "(I)LTypeFinder$Node;"⟩, 1), (⟨"TypeFinder$DataParser", "wholeType", "(I)LTypeFinder$Node;"⟩, 1), (⟨"TypeFinder$Parser", "operatorDefinition", "()LTypeFinder$Node;"⟩, 4), (⟨"TypeFinder$Parser", "expression", "(I)LTypeFinder$Node;"⟩, 4), (⟨"TypeFinder$Parser", "function", "(I)LTypeFinder$Node;"⟩, 4), (⟨"TypeFinder$Parser", "let", "(I)LTypeFinder$Node;"⟩, 4), (⟨"TypeFinder$Parser", "definition", "(I)LTypeFinder$Node;"⟩, 4), (⟨"TypeFinder$Parser", "choice", "(I)LTypeFinder$Node;"⟩, 4), (⟨"TypeFinder$Parser", "cases", "(I)LTypeFinder$Node;"⟩, 4), (⟨"TypeFinder$Parser", "pattern", "()LTypeFinder$Node;"⟩, 4), (⟨"TypeFinder$Parser", "name", "()J"⟩, 4), (⟨"TypeFinder$Parser", "startsName", "()Z"⟩, 4), (⟨"TypeFinder$Parser", "chain", "(I)LTypeFinder$Node;"⟩, 4), (⟨"TypeFinder$Parser", "application", "(I)LTypeFinder$Node;"⟩, 4), (⟨"TypeFinder$Parser", "atom", "(I)LTypeFinder$Node;"⟩, 4), (⟨"TypeFinder$Parser", "startsAtom", "()Z"⟩, 4)]
theorem lw_r2 : ∀ q ∈ lw_privs_2, lw_okq q := List.forall_mem_cons.mpr ⟨lw_p16, List.forall_mem_cons.mpr ⟨lw_p17, List.forall_mem_cons.mpr ⟨lw_p18, List.forall_mem_cons.mpr ⟨lw_p19, List.forall_mem_cons.mpr ⟨lw_p20, List.forall_mem_cons.mpr ⟨lw_p21, List.forall_mem_cons.mpr ⟨lw_p22, List.forall_mem_cons.mpr ⟨lw_p23, List.forall_mem_cons.mpr ⟨lw_p24, List.forall_mem_cons.mpr ⟨lw_p25, List.forall_mem_cons.mpr ⟨lw_p26, List.forall_mem_cons.mpr ⟨lw_p27, List.forall_mem_cons.mpr ⟨lw_p28, List.forall_mem_cons.mpr ⟨lw_p29, List.forall_mem_cons.mpr ⟨lw_p30, List.forall_mem_cons.mpr ⟨lw_p31, fun _ h => absurd h List.not_mem_nil⟩⟩⟩⟩⟩⟩⟩⟩⟩⟩⟩⟩⟩⟩⟩⟩
theorem lw_p32 : lw_okq (⟨"TypeFinder$Parser", "refuseWithoutLevel", "(J)V"⟩, 4) := ⟨⟨by decide +kernel, by decide +kernel⟩, List.mem_of_getElem? (i := 48) (by decide +kernel), List.mem_of_getElem? (i := 1260) (by decide +kernel), List.mem_of_getElem? (i := 1261) (by decide +kernel)⟩
theorem lw_p33 : lw_okq (⟨"TypeFinder$Parser", "placeAhead", "(LTypeFinder$Node;LTypeFinder$Node;LTypeFinder$Node;)LTypeFinder$Node;"⟩, 4) := ⟨⟨by decide +kernel, by decide +kernel⟩, List.mem_of_getElem? (i := 48) (by decide +kernel), List.mem_of_getElem? (i := 1267) (by decide +kernel), List.mem_of_getElem? (i := 1268) (by decide +kernel)⟩
theorem lw_p34 : lw_okq (⟨"TypeFinder$Parser", "bindsAhead", "(JJ)Z"⟩, 4) := ⟨⟨by decide +kernel, by decide +kernel⟩, List.mem_of_getElem? (i := 48) (by decide +kernel), List.mem_of_getElem? (i := 1271) (by decide +kernel), List.mem_of_getElem? (i := 1272) (by decide +kernel)⟩
theorem lw_p35 : lw_okq (⟨"TypeFinder$Known", "dataType", "(J)LTypeFinder$DataType;"⟩, 5) := ⟨⟨by decide +kernel, by decide +kernel⟩, List.mem_of_getElem? (i := 464) (by decide +kernel), List.mem_of_getElem? (i := 1284) (by decide +kernel), List.mem_of_getElem? (i := 1285) (by decide +kernel)⟩
theorem lw_p36 : lw_okq (⟨"TypeFinder$Known", "addConstructor", "(LTypeFinder$DataType;LTypeFinder$Node;LTypeFinder$Node;)V"⟩, 5) := ⟨⟨by decide +kernel, by decide +kernel⟩, List.mem_of_getElem? (i := 464) (by decide +kernel), List.mem_of_getElem? (i := 1303) (by decide +kernel), List.mem_of_getElem? (i := 1304) (by decide +kernel)⟩
theorem lw_p37 : lw_okq (⟨"TypeFinder$Known", "typeOf", "(LTypeFinder$Node;LTypeFinder$DataType;LTypeFinder$Node;I)LTypeFinder$Type;"⟩, 5) := ⟨⟨by decide +kernel, by decide +kernel⟩, List.mem_of_getElem? (i := 464) (by decide +kernel), List.mem_of_getElem? (i := 1314) (by decide +kernel), List.mem_of_getElem? (i := 1315) (by decide +kernel)⟩
theorem lw_p38 : lw_okq (⟨"TypeFinder$Known", "dataTypeOf", "(LTypeFinder$Node;LTypeFinder$DataType;LTypeFinder$Node;I)LTypeFinder$Type;"⟩, 5) := ⟨⟨by decide +kernel, by decide +kernel⟩, List.mem_of_getElem? (i := 464) (by decide +kernel), List.mem_of_getElem? (i := 1336) (by decide +kernel), List.mem_of_getElem? (i := 1337) (by decide +kernel)⟩
theorem lw_p39 : lw_okq (⟨"TypeFinder$Checker", "defined", "(LTypeFinder$Node;I)LTypeFinder$Name;"⟩, 6) := ⟨⟨by decide +kernel, by decide +kernel⟩, List.mem_of_getElem? (i := 698) (by decide +kernel), List.mem_of_getElem? (i := 1362) (by decide +kernel), List.mem_of_getElem? (i := 1363) (by decide +kernel)⟩
theorem lw_p40 : lw_okq (⟨"TypeFinder$Checker", "functionType", "(LTypeFinder$Node;I)LTypeFinder$Type;"⟩, 6) := ⟨⟨by decide +kernel, by decide +kernel⟩, List.mem_of_getElem? (i := 698) (by decide +kernel), List.mem_of_getElem? (i := 1366) (by decide +kernel), List.mem_of_getElem? (i := 1367) (by decide +kernel)⟩
theorem lw_p41 : lw_okq (⟨"TypeFinder$Checker", "addWord", "(J)LTypeFinder$Type;"⟩, 6) := ⟨⟨by decide +kernel, by decide +kernel⟩, List.mem_of_getElem? (i := 698) (by decide +kernel), List.mem_of_getElem? (i := 1371) (by decide +kernel), List.mem_of_getElem? (i := 1372) (by decide +kernel)⟩
theorem lw_p42 : lw_okq (⟨"TypeFinder$Checker", "found", "(LTypeFinder$Node;I)LTypeFinder$Type;"⟩, 6) := ⟨⟨by decide +kernel, by decide +kernel⟩, List.mem_of_getElem? (i := 698) (by decide +kernel), List.mem_of_getElem? (i := 1382) (by decide +kernel), List.mem_of_getElem? (i := 1383) (by decide +kernel)⟩
theorem lw_p43 : lw_okq (⟨"TypeFinder$Checker", "nameOf", "(J)LTypeFinder$Name;"⟩, 6) := ⟨⟨by decide +kernel, by decide +kernel⟩, List.mem_of_getElem? (i := 698) (by decide +kernel), List.mem_of_getElem? (i := 1388) (by decide +kernel), List.mem_of_getElem? (i := 1389) (by decide +kernel)⟩
theorem lw_p44 : lw_okq (⟨"TypeFinder$Checker", "use", "(LTypeFinder$Name;)LTypeFinder$Type;"⟩, 6) := ⟨⟨by decide +kernel, by decide +kernel⟩, List.mem_of_getElem? (i := 698) (by decide +kernel), List.mem_of_getElem? (i := 1397) (by decide +kernel), List.mem_of_getElem? (i := 1398) (by decide +kernel)⟩
theorem lw_p45 : lw_okq (⟨"TypeFinder$Checker", "checked", "(LTypeFinder$Type;)LTypeFinder$Type;"⟩, 6) := ⟨⟨by decide +kernel, by decide +kernel⟩, List.mem_of_getElem? (i := 698) (by decide +kernel), List.mem_of_getElem? (i := 1401) (by decide +kernel), List.mem_of_getElem? (i := 1402) (by decide +kernel)⟩
theorem lw_p46 : lw_okq (⟨"java/util/ArrayList", "fastRemove", "([Ljava/lang/Object;I)V"⟩, 3) := ⟨⟨by decide +kernel, by decide +kernel⟩, List.mem_of_getElem? (i := 518) (by decide +kernel), List.mem_of_getElem? (i := 1420) (by decide +kernel), List.mem_of_getElem? (i := 1421) (by decide +kernel)⟩
theorem lw_p47 : lw_okq (⟨"TypeFinder$Unifier", "copied", "(LTypeFinder$Type;I)LTypeFinder$Type;"⟩, 4) := ⟨⟨by decide +kernel, by decide +kernel⟩, List.mem_of_getElem? (i := 704) (by decide +kernel), List.mem_of_getElem? (i := 1430) (by decide +kernel), List.mem_of_getElem? (i := 1431) (by decide +kernel)⟩
def lw_privs_3 : List (MethodName × Nat) := [(⟨"TypeFinder$Parser", "refuseWithoutLevel", "(J)V"⟩, 4), (⟨"TypeFinder$Parser", "placeAhead", "(LTypeFinder$Node;LTypeFinder$Node;LTypeFinder$Node;)LTypeFinder$Node;"⟩, 4), (⟨"TypeFinder$Parser", "bindsAhead", "(JJ)Z"⟩, 4), (⟨"TypeFinder$Known", "dataType", "(J)LTypeFinder$DataType;"⟩, 5), (⟨"TypeFinder$Known", "addConstructor", "(LTypeFinder$DataType;LTypeFinder$Node;LTypeFinder$Node;)V"⟩, 5), (⟨"TypeFinder$Known", "typeOf", "(LTypeFinder$Node;LTypeFinder$DataType;LTypeFinder$Node;I)LTypeFinder$Type;"⟩, 5), (⟨"TypeFinder$Known", "dataTypeOf", "(LTypeFinder$Node;LTypeFinder$DataType;LTypeFinder$Node;I)LTypeFinder$Type;"⟩, 5), (⟨"TypeFinder$Checker", "defined", "(LTypeFinder$Node;I)LTypeFinder$Name;"⟩, 6), (⟨"TypeFinder$Checker", "functionType", "(LTypeFinder$Node;I)LTypeFinder$Type;"⟩, 6), (⟨"TypeFinder$Checker", "addWord", "(J)LTypeFinder$Type;"⟩, 6), (⟨"TypeFinder$Checker", "found", "(LTypeFinder$Node;I)LTypeFinder$Type;"⟩, 6), (⟨"TypeFinder$Checker", "nameOf", "(J)LTypeFinder$Name;"⟩, 6), (⟨"TypeFinder$Checker", "use", "(LTypeFinder$Name;)LTypeFinder$Type;"⟩, 6), (⟨"TypeFinder$Checker", "checked", "(LTypeFinder$Type;)LTypeFinder$Type;"⟩, 6), (⟨"java/util/ArrayList", "fastRemove", "([Ljava/lang/Object;I)V"⟩, 3), (⟨"TypeFinder$Unifier", "copied", "(LTypeFinder$Type;I)LTypeFinder$Type;"⟩, 4)]
theorem lw_r3 : ∀ q ∈ lw_privs_3, lw_okq q := List.forall_mem_cons.mpr ⟨lw_p32, List.forall_mem_cons.mpr ⟨lw_p33, List.forall_mem_cons.mpr ⟨lw_p34, List.forall_mem_cons.mpr ⟨lw_p35, List.forall_mem_cons.mpr ⟨lw_p36, List.forall_mem_cons.mpr ⟨lw_p37, List.forall_mem_cons.mpr ⟨lw_p38, List.forall_mem_cons.mpr ⟨lw_p39, List.forall_mem_cons.mpr ⟨lw_p40, List.forall_mem_cons.mpr ⟨lw_p41, List.forall_mem_cons.mpr ⟨lw_p42, List.forall_mem_cons.mpr ⟨lw_p43, List.forall_mem_cons.mpr ⟨lw_p44, List.forall_mem_cons.mpr ⟨lw_p45, List.forall_mem_cons.mpr ⟨lw_p46, List.forall_mem_cons.mpr ⟨lw_p47, fun _ h => absurd h List.not_mem_nil⟩⟩⟩⟩⟩⟩⟩⟩⟩⟩⟩⟩⟩⟩⟩⟩
theorem lw_p48 : lw_okq (⟨"TypeFinder$Checker", "application", "(LTypeFinder$Node;I)LTypeFinder$Type;"⟩, 6) := ⟨⟨by decide +kernel, by decide +kernel⟩, List.mem_of_getElem? (i := 698) (by decide +kernel), List.mem_of_getElem? (i := 1438) (by decide +kernel), List.mem_of_getElem? (i := 1439) (by decide +kernel)⟩
theorem lw_p49 : lw_okq (⟨"TypeFinder$Unifier", "pushPair", "(LTypeFinder$Type;LTypeFinder$Type;)V"⟩, 4) := ⟨⟨by decide +kernel, by decide +kernel⟩, List.mem_of_getElem? (i := 704) (by decide +kernel), List.mem_of_getElem? (i := 1447) (by decide +kernel), List.mem_of_getElem? (i := 1448) (by decide +kernel)⟩
theorem lw_p50 : lw_okq (⟨"TypeFinder$Unifier", "linkOpen", "()V"⟩, 4) := ⟨⟨by decide +kernel, by decide +kernel⟩, List.mem_of_getElem? (i := 704) (by decide +kernel), List.mem_of_getElem? (i := 1455) (by decide +kernel), List.mem_of_getElem? (i := 1456) (by decide +kernel)⟩
theorem lw_p51 : lw_okq (⟨"TypeFinder$Unifier", "bind", "(LTypeFinder$Type;LTypeFinder$Type;)V"⟩, 4) := ⟨⟨by decide +kernel, by decide +kernel⟩, List.mem_of_getElem? (i := 704) (by decide +kernel), List.mem_of_getElem? (i := 1459) (by decide +kernel), List.mem_of_getElem? (i := 1460) (by decide +kernel)⟩
theorem lw_p52 : lw_okq (⟨"TypeFinder$Unifier", "startWalk", "(LTypeFinder$Type;)V"⟩, 4) := ⟨⟨by decide +kernel, by decide +kernel⟩, List.mem_of_getElem? (i := 704) (by decide +kernel), List.mem_of_getElem? (i := 1463) (by decide +kernel), List.mem_of_getElem? (i := 1464) (by decide +kernel)⟩
theorem lw_p53 : lw_okq (⟨"TypeFinder$Unifier", "nextPart", "()LTypeFinder$Type;"⟩, 4) := ⟨⟨by decide +kernel, by decide +kernel⟩, List.mem_of_getElem? (i := 704) (by decide +kernel), List.mem_of_getElem? (i := 1467) (by decide +kernel), List.mem_of_getElem? (i := 1468) (by decide +kernel)⟩
theorem lw_p54 : lw_okq (⟨"TypeFinder$Unifier", "openParts", "(LTypeFinder$Type;LTypeFinder$Type;)V"⟩, 4) := ⟨⟨by decide +kernel, by decide +kernel⟩, List.mem_of_getElem? (i := 704) (by decide +kernel), List.mem_of_getElem? (i := 1474) (by decide +kernel), List.mem_of_getElem? (i := 1475) (by decide +kernel)⟩
theorem lw_p55 : lw_okq (⟨"TypeFinder$Checker", "chain", "(LTypeFinder$Node;I)LTypeFinder$Type;"⟩, 6) := ⟨⟨by decide +kernel, by decide +kernel⟩, List.mem_of_getElem? (i := 698) (by decide +kernel), List.mem_of_getElem? (i := 1478) (by decide +kernel), List.mem_of_getElem? (i := 1479) (by decide +kernel)⟩
theorem lw_p56 : lw_okq (⟨"TypeFinder$Checker", "takeOperand", "()LTypeFinder$Type;"⟩, 6) := ⟨⟨by decide +kernel, by decide +kernel⟩, List.mem_of_getElem? (i := 698) (by decide +kernel), List.mem_of_getElem? (i := 1482) (by decide +kernel), List.mem_of_getElem? (i := 1483) (by decide +kernel)⟩
theorem lw_p57 : lw_okq (⟨"TypeFinder$Checker", "operatorUse", "(J)LTypeFinder$Type;"⟩, 6) := ⟨⟨by decide +kernel, by decide +kernel⟩, List.mem_of_getElem? (i := 698) (by decide +kernel), List.mem_of_getElem? (i := 1488) (by decide +kernel), List.mem_of_getElem? (i := 1489) (by decide +kernel)⟩
theorem lw_p58 : lw_okq (⟨"TypeFinder$Checker", "pair", "(LTypeFinder$Node;I)LTypeFinder$Type;"⟩, 6) := ⟨⟨by decide +kernel, by decide +kernel⟩, List.mem_of_getElem? (i := 698) (by decide +kernel), List.mem_of_getElem? (i := 1492) (by decide +kernel), List.mem_of_getElem? (i := 1493) (by decide +kernel)⟩
theorem lw_p59 : lw_okq (⟨"TypeFinder$Checker", "function", "(LTypeFinder$Node;I)LTypeFinder$Type;"⟩, 6) := ⟨⟨by decide +kernel, by decide +kernel⟩, List.mem_of_getElem? (i := 698) (by decide +kernel), List.mem_of_getElem? (i := 1497) (by decide +kernel), List.mem_of_getElem? (i := 1498) (by decide +kernel)⟩
theorem lw_p60 : lw_okq (⟨"TypeFinder$Checker", "leave", "(I)V"⟩, 6) := ⟨⟨by decide +kernel, by decide +kernel⟩, List.mem_of_getElem? (i := 698) (by decide +kernel), List.mem_of_getElem? (i := 1501) (by decide +kernel), List.mem_of_getElem? (i := 1502) (by decide +kernel)⟩
theorem lw_p61 : lw_okq (⟨"TypeFinder$Checker", "let", "(LTypeFinder$Node;I)LTypeFinder$Type;"⟩, 6) := ⟨⟨by decide +kernel, by decide +kernel⟩, List.mem_of_getElem? (i := 698) (by decide +kernel), List.mem_of_getElem? (i := 1505) (by decide +kernel), List.mem_of_getElem? (i := 1506) (by decide +kernel)⟩
theorem lw_p62 : lw_okq (⟨"TypeFinder$Checker", "choice", "(LTypeFinder$Node;I)LTypeFinder$Type;"⟩, 6) := ⟨⟨by decide +kernel, by decide +kernel⟩, List.mem_of_getElem? (i := 698) (by decide +kernel), List.mem_of_getElem? (i := 1509) (by decide +kernel), List.mem_of_getElem? (i := 1510) (by decide +kernel)⟩
theorem lw_p63 : lw_okq (⟨"TypeFinder$Checker", "cases", "(LTypeFinder$Node;I)LTypeFinder$Type;"⟩, 6) := ⟨⟨by decide +kernel, by decide +kernel⟩, List.mem_of_getElem? (i := 698) (by decide +kernel), List.mem_of_getElem? (i := 1513) (by decide +kernel), List.mem_of_getElem? (i := 1514) (by decide +kernel)⟩
def lw_privs_4 : List (MethodName × Nat) := [(⟨"TypeFinder$Checker", "application", "(LTypeFinder$Node;I)LTypeFinder$Type;"⟩, 6), (⟨"TypeFinder$Unifier", "pushPair", "(LTypeFinder$Type;LTypeFinder$Type;)V"⟩, 4), (⟨"TypeFinder$Unifier", "linkOpen", "()V"⟩, 4), (⟨"TypeFinder$Unifier", "bind", "(LTypeFinder$Type;LTypeFinder$Type;)V"⟩, 4), (⟨"TypeFinder$Unifier", "startWalk", "(LTypeFinder$Type;)V"⟩, 4), (⟨"TypeFinder$Unifier", "nextPart", "()LTypeFinder$Type;"⟩, 4), (⟨"TypeFinder$Unifier", "openParts", "(LTypeFinder$Type;LTypeFinder$Type;)V"⟩, 4), (⟨"TypeFinder$Checker", "chain", "(LTypeFinder$Node;I)LTypeFinder$Type;"⟩, 6), (⟨"TypeFinder$Checker", "takeOperand", "()LTypeFinder$Type;"⟩, 6), (⟨"TypeFinder$Checker", "operatorUse", "(J)LTypeFinder$Type;"⟩, 6), (⟨"TypeFinder$Checker", "pair", "(LTypeFinder$Node;I)LTypeFinder$Type;"⟩, 6), (⟨"TypeFinder$Checker", "function", "(LTypeFinder$Node;I)LTypeFinder$Type;"⟩, 6), (⟨"TypeFinder$Checker", "leave", "(I)V"⟩, 6), (⟨"TypeFinder$Checker", "let", "(LTypeFinder$Node;I)LTypeFinder$Type;"⟩, 6), (⟨"TypeFinder$Checker", "choice", "(LTypeFinder$Node;I)LTypeFinder$Type;"⟩, 6), (⟨"TypeFinder$Checker", "cases", "(LTypeFinder$Node;I)LTypeFinder$Type;"⟩, 6)]
theorem lw_r4 : ∀ q ∈ lw_privs_4, lw_okq q := List.forall_mem_cons.mpr ⟨lw_p48, List.forall_mem_cons.mpr ⟨lw_p49, List.forall_mem_cons.mpr ⟨lw_p50, List.forall_mem_cons.mpr ⟨lw_p51, List.forall_mem_cons.mpr ⟨lw_p52, List.forall_mem_cons.mpr ⟨lw_p53, List.forall_mem_cons.mpr ⟨lw_p54, List.forall_mem_cons.mpr ⟨lw_p55, List.forall_mem_cons.mpr ⟨lw_p56, List.forall_mem_cons.mpr ⟨lw_p57, List.forall_mem_cons.mpr ⟨lw_p58, List.forall_mem_cons.mpr ⟨lw_p59, List.forall_mem_cons.mpr ⟨lw_p60, List.forall_mem_cons.mpr ⟨lw_p61, List.forall_mem_cons.mpr ⟨lw_p62, List.forall_mem_cons.mpr ⟨lw_p63, fun _ h => absurd h List.not_mem_nil⟩⟩⟩⟩⟩⟩⟩⟩⟩⟩⟩⟩⟩⟩⟩⟩
theorem lw_p64 : lw_okq (⟨"TypeFinder$Checker", "constructorPattern", "(LTypeFinder$Node;)LTypeFinder$Type;"⟩, 6) := ⟨⟨by decide +kernel, by decide +kernel⟩, List.mem_of_getElem? (i := 698) (by decide +kernel), List.mem_of_getElem? (i := 1517) (by decide +kernel), List.mem_of_getElem? (i := 1518) (by decide +kernel)⟩
theorem lw_p65 : lw_okq (⟨"TypeFinder$Checker", "plainPattern", "(LTypeFinder$Node;)LTypeFinder$Type;"⟩, 6) := ⟨⟨by decide +kernel, by decide +kernel⟩, List.mem_of_getElem? (i := 698) (by decide +kernel), List.mem_of_getElem? (i := 1521) (by decide +kernel), List.mem_of_getElem? (i := 1522) (by decide +kernel)⟩
theorem lw_p66 : lw_okq (⟨"TypeFinder$Checker", "judge", "(LTypeFinder$Node;)V"⟩, 6) := ⟨⟨by decide +kernel, by decide +kernel⟩, List.mem_of_getElem? (i := 698) (by decide +kernel), List.mem_of_getElem? (i := 1525) (by decide +kernel), List.mem_of_getElem? (i := 1526) (by decide +kernel)⟩
theorem lw_p67 : lw_okq (⟨"TypeFinder$Checker", "constructorsBeside", "(J)I"⟩, 6) := ⟨⟨by decide +kernel, by decide +kernel⟩, List.mem_of_getElem? (i := 698) (by decide +kernel), List.mem_of_getElem? (i := 1532) (by decide +kernel), List.mem_of_getElem? (i := 1533) (by decide +kernel)⟩
theorem lw_p68 : lw_okq (⟨"TypeFinder", "keepMatches", "()V"⟩, 9) := ⟨⟨by decide +kernel, by decide +kernel⟩, List.mem_of_getElem? (i := 40) (by decide +kernel), List.mem_of_getElem? (i := 1560) (by decide +kernel), List.mem_of_getElem? (i := 1561) (by decide +kernel)⟩
theorem lw_p69 : lw_okq (⟨"TypeFinderModel", "setName", "(IIIIII)V"⟩, 80) := ⟨⟨by decide +kernel, by decide +kernel⟩, List.mem_of_getElem? (i := 1579) (by decide +kernel), List.mem_of_getElem? (i := 1585) (by decide +kernel), List.mem_of_getElem? (i := 1586) (by decide +kernel)⟩
theorem lw_p70 : lw_okq (⟨"TypeFinderModel", "begin", "()Z"⟩, 80) := ⟨⟨by decide +kernel, by decide +kernel⟩, List.mem_of_getElem? (i := 1579) (by decide +kernel), List.mem_of_getElem? (i := 1854) (by decide +kernel), List.mem_of_getElem? (i := 1855) (by decide +kernel)⟩
theorem lw_p71 : lw_okq (⟨"TypeFinderModel", "split", "()V"⟩, 80) := ⟨⟨by decide +kernel, by decide +kernel⟩, List.mem_of_getElem? (i := 1579) (by decide +kernel), List.mem_of_getElem? (i := 1858) (by decide +kernel), List.mem_of_getElem? (i := 1859) (by decide +kernel)⟩
theorem lw_p72 : lw_okq (⟨"TypeFinderModel", "letters", "(I)I"⟩, 80) := ⟨⟨by decide +kernel, by decide +kernel⟩, List.mem_of_getElem? (i := 1579) (by decide +kernel), List.mem_of_getElem? (i := 1868) (by decide +kernel), List.mem_of_getElem? (i := 1869) (by decide +kernel)⟩
theorem lw_p73 : lw_okq (⟨"TypeFinderModel", "charAt", "(I)I"⟩, 80) := ⟨⟨by decide +kernel, by decide +kernel⟩, List.mem_of_getElem? (i := 1579) (by decide +kernel), List.mem_of_getElem? (i := 1872) (by decide +kernel), List.mem_of_getElem? (i := 1873) (by decide +kernel)⟩
theorem lw_p74 : lw_okq (⟨"TypeFinderModel", "put", "(II)V"⟩, 80) := ⟨⟨by decide +kernel, by decide +kernel⟩, List.mem_of_getElem? (i := 1579) (by decide +kernel), List.mem_of_getElem? (i := 1889) (by decide +kernel), List.mem_of_getElem? (i := 1890) (by decide +kernel)⟩
theorem lw_p75 : lw_okq (⟨"TypeFinderModel", "digits", "(I)I"⟩, 80) := ⟨⟨by decide +kernel, by decide +kernel⟩, List.mem_of_getElem? (i := 1579) (by decide +kernel), List.mem_of_getElem? (i := 1896) (by decide +kernel), List.mem_of_getElem? (i := 1897) (by decide +kernel)⟩
theorem lw_p76 : lw_okq (⟨"TypeFinderModel", "expression", "()V"⟩, 80) := ⟨⟨by decide +kernel, by decide +kernel⟩, List.mem_of_getElem? (i := 1579) (by decide +kernel), List.mem_of_getElem? (i := 1906) (by decide +kernel), List.mem_of_getElem? (i := 1907) (by decide +kernel)⟩
theorem lw_p77 : lw_okq (⟨"TypeFinderModel", "beginExpression", "()V"⟩, 80) := ⟨⟨by decide +kernel, by decide +kernel⟩, List.mem_of_getElem? (i := 1579) (by decide +kernel), List.mem_of_getElem? (i := 1910) (by decide +kernel), List.mem_of_getElem? (i := 1911) (by decide +kernel)⟩
theorem lw_p78 : lw_okq (⟨"TypeFinderModel", "peek", "()I"⟩, 80) := ⟨⟨by decide +kernel, by decide +kernel⟩, List.mem_of_getElem? (i := 1579) (by decide +kernel), List.mem_of_getElem? (i := 1914) (by decide +kernel), List.mem_of_getElem? (i := 1915) (by decide +kernel)⟩
theorem lw_p79 : lw_okq (⟨"TypeFinderModel", "word", "()I"⟩, 80) := ⟨⟨by decide +kernel, by decide +kernel⟩, List.mem_of_getElem? (i := 1579) (by decide +kernel), List.mem_of_getElem? (i := 1918) (by decide +kernel), List.mem_of_getElem? (i := 1919) (by decide +kernel)⟩
def lw_privs_5 : List (MethodName × Nat) := [(⟨"TypeFinder$Checker", "constructorPattern", "(LTypeFinder$Node;)LTypeFinder$Type;"⟩, 6), (⟨"TypeFinder$Checker", "plainPattern", "(LTypeFinder$Node;)LTypeFinder$Type;"⟩, 6), (⟨"TypeFinder$Checker", "judge", "(LTypeFinder$Node;)V"⟩, 6), (⟨"TypeFinder$Checker", "constructorsBeside", "(J)I"⟩, 6), (⟨"TypeFinder", "keepMatches", "()V"⟩, 9), (⟨"TypeFinderModel", "setName", "(IIIIII)V"⟩, 80), (⟨"TypeFinderModel", "begin", "()Z"⟩, 80), (⟨"TypeFinderModel", "split", "()V"⟩, 80), (⟨"TypeFinderModel", "letters", "(I)I"⟩, 80), (⟨"TypeFinderModel", "charAt", "(I)I"⟩, 80), (⟨"TypeFinderModel", "put", "(II)V"⟩, 80), (⟨"TypeFinderModel", "digits", "(I)I"⟩, 80), (⟨"TypeFinderModel", "expression", "()V"⟩, 80), (⟨"TypeFinderModel", "beginExpression", "()V"⟩, 80), (⟨"TypeFinderModel", "peek", "()I"⟩, 80), (⟨"TypeFinderModel", "word", "()I"⟩, 80)]
theorem lw_r5 : ∀ q ∈ lw_privs_5, lw_okq q := List.forall_mem_cons.mpr ⟨lw_p64, List.forall_mem_cons.mpr ⟨lw_p65, List.forall_mem_cons.mpr ⟨lw_p66, List.forall_mem_cons.mpr ⟨lw_p67, List.forall_mem_cons.mpr ⟨lw_p68, List.forall_mem_cons.mpr ⟨lw_p69, List.forall_mem_cons.mpr ⟨lw_p70, List.forall_mem_cons.mpr ⟨lw_p71, List.forall_mem_cons.mpr ⟨lw_p72, List.forall_mem_cons.mpr ⟨lw_p73, List.forall_mem_cons.mpr ⟨lw_p74, List.forall_mem_cons.mpr ⟨lw_p75, List.forall_mem_cons.mpr ⟨lw_p76, List.forall_mem_cons.mpr ⟨lw_p77, List.forall_mem_cons.mpr ⟨lw_p78, List.forall_mem_cons.mpr ⟨lw_p79, fun _ h => absurd h List.not_mem_nil⟩⟩⟩⟩⟩⟩⟩⟩⟩⟩⟩⟩⟩⟩⟩⟩
theorem lw_p80 : lw_okq (⟨"TypeFinderModel", "expect", "(I)V"⟩, 80) := ⟨⟨by decide +kernel, by decide +kernel⟩, List.mem_of_getElem? (i := 1579) (by decide +kernel), List.mem_of_getElem? (i := 1922) (by decide +kernel), List.mem_of_getElem? (i := 1923) (by decide +kernel)⟩
theorem lw_p81 : lw_okq (⟨"TypeFinderModel", "emit", "(III)V"⟩, 80) := ⟨⟨by decide +kernel, by decide +kernel⟩, List.mem_of_getElem? (i := 1579) (by decide +kernel), List.mem_of_getElem? (i := 1926) (by decide +kernel), List.mem_of_getElem? (i := 1927) (by decide +kernel)⟩
theorem lw_p82 : lw_okq (⟨"TypeFinderModel", "enter", "(III)V"⟩, 80) := ⟨⟨by decide +kernel, by decide +kernel⟩, List.mem_of_getElem? (i := 1579) (by decide +kernel), List.mem_of_getElem? (i := 1930) (by decide +kernel), List.mem_of_getElem? (i := 1931) (by decide +kernel)⟩
theorem lw_p83 : lw_okq (⟨"TypeFinderModel", "within", "(I)V"⟩, 80) := ⟨⟨by decide +kernel, by decide +kernel⟩, List.mem_of_getElem? (i := 1579) (by decide +kernel), List.mem_of_getElem? (i := 1934) (by decide +kernel), List.mem_of_getElem? (i := 1935) (by decide +kernel)⟩
theorem lw_p84 : lw_okq (⟨"TypeFinderModel", "head", "()V"⟩, 80) := ⟨⟨by decide +kernel, by decide +kernel⟩, List.mem_of_getElem? (i := 1579) (by decide +kernel), List.mem_of_getElem? (i := 1938) (by decide +kernel), List.mem_of_getElem? (i := 1939) (by decide +kernel)⟩
theorem lw_p85 : lw_okq (⟨"TypeFinderModel", "chain", "()V"⟩, 80) := ⟨⟨by decide +kernel, by decide +kernel⟩, List.mem_of_getElem? (i := 1579) (by decide +kernel), List.mem_of_getElem? (i := 1942) (by decide +kernel), List.mem_of_getElem? (i := 1943) (by decide +kernel)⟩
theorem lw_p86 : lw_okq (⟨"TypeFinderModel", "atom", "(I)Z"⟩, 80) := ⟨⟨by decide +kernel, by decide +kernel⟩, List.mem_of_getElem? (i := 1579) (by decide +kernel), List.mem_of_getElem? (i := 1946) (by decide +kernel), List.mem_of_getElem? (i := 1947) (by decide +kernel)⟩
theorem lw_p87 : lw_okq (⟨"TypeFinderModel", "atomEnds", "(I)V"⟩, 80) := ⟨⟨by decide +kernel, by decide +kernel⟩, List.mem_of_getElem? (i := 1579) (by decide +kernel), List.mem_of_getElem? (i := 1950) (by decide +kernel), List.mem_of_getElem? (i := 1951) (by decide +kernel)⟩
theorem lw_p88 : lw_okq (⟨"TypeFinderModel", "operator", "(II)V"⟩, 80) := ⟨⟨by decide +kernel, by decide +kernel⟩, List.mem_of_getElem? (i := 1579) (by decide +kernel), List.mem_of_getElem? (i := 1954) (by decide +kernel), List.mem_of_getElem? (i := 1955) (by decide +kernel)⟩
theorem lw_p89 : lw_okq (⟨"TypeFinderModel", "operates", "()V"⟩, 80) := ⟨⟨by decide +kernel, by decide +kernel⟩, List.mem_of_getElem? (i := 1579) (by decide +kernel), List.mem_of_getElem? (i := 1958) (by decide +kernel), List.mem_of_getElem? (i := 1959) (by decide +kernel)⟩
theorem lw_p90 : lw_okq (⟨"TypeFinderModel", "leave", "(I)V"⟩, 80) := ⟨⟨by decide +kernel, by decide +kernel⟩, List.mem_of_getElem? (i := 1579) (by decide +kernel), List.mem_of_getElem? (i := 1962) (by decide +kernel), List.mem_of_getElem? (i := 1963) (by decide +kernel)⟩
theorem lw_p91 : lw_okq (⟨"TypeFinderModel", "goOn", "()V"⟩, 80) := ⟨⟨by decide +kernel, by decide +kernel⟩, List.mem_of_getElem? (i := 1579) (by decide +kernel), List.mem_of_getElem? (i := 1966) (by decide +kernel), List.mem_of_getElem? (i := 1967) (by decide +kernel)⟩
theorem lw_p92 : lw_okq (⟨"TypeFinderModel", "becomes", "(I)V"⟩, 80) := ⟨⟨by decide +kernel, by decide +kernel⟩, List.mem_of_getElem? (i := 1579) (by decide +kernel), List.mem_of_getElem? (i := 1970) (by decide +kernel), List.mem_of_getElem? (i := 1971) (by decide +kernel)⟩
theorem lw_p93 : lw_okq (⟨"TypeFinderModel", "pattern", "(I)V"⟩, 80) := ⟨⟨by decide +kernel, by decide +kernel⟩, List.mem_of_getElem? (i := 1579) (by decide +kernel), List.mem_of_getElem? (i := 1974) (by decide +kernel), List.mem_of_getElem? (i := 1975) (by decide +kernel)⟩
theorem lw_p94 : lw_okq (⟨"TypeFinderModel", "name", "()I"⟩, 80) := ⟨⟨by decide +kernel, by decide +kernel⟩, List.mem_of_getElem? (i := 1579) (by decide +kernel), List.mem_of_getElem? (i := 1978) (by decide +kernel), List.mem_of_getElem? (i := 1979) (by decide +kernel)⟩
theorem lw_p95 : lw_okq (⟨"TypeFinderModel", "countWords", "(II)V"⟩, 80) := ⟨⟨by decide +kernel, by decide +kernel⟩, List.mem_of_getElem? (i := 1579) (by decide +kernel), List.mem_of_getElem? (i := 1982) (by decide +kernel), List.mem_of_getElem? (i := 1983) (by decide +kernel)⟩
def lw_privs_6 : List (MethodName × Nat) := [(⟨"TypeFinderModel", "expect", "(I)V"⟩, 80), (⟨"TypeFinderModel", "emit", "(III)V"⟩, 80), (⟨"TypeFinderModel", "enter", "(III)V"⟩, 80), (⟨"TypeFinderModel", "within", "(I)V"⟩, 80), (⟨"TypeFinderModel", "head", "()V"⟩, 80), (⟨"TypeFinderModel", "chain", "()V"⟩, 80), (⟨"TypeFinderModel", "atom", "(I)Z"⟩, 80), (⟨"TypeFinderModel", "atomEnds", "(I)V"⟩, 80), (⟨"TypeFinderModel", "operator", "(II)V"⟩, 80), (⟨"TypeFinderModel", "operates", "()V"⟩, 80), (⟨"TypeFinderModel", "leave", "(I)V"⟩, 80), (⟨"TypeFinderModel", "goOn", "()V"⟩, 80), (⟨"TypeFinderModel", "becomes", "(I)V"⟩, 80), (⟨"TypeFinderModel", "pattern", "(I)V"⟩, 80), (⟨"TypeFinderModel", "name", "()I"⟩, 80), (⟨"TypeFinderModel", "countWords", "(II)V"⟩, 80)]
theorem lw_r6 : ∀ q ∈ lw_privs_6, lw_okq q := List.forall_mem_cons.mpr ⟨lw_p80, List.forall_mem_cons.mpr ⟨lw_p81, List.forall_mem_cons.mpr ⟨lw_p82, List.forall_mem_cons.mpr ⟨lw_p83, List.forall_mem_cons.mpr ⟨lw_p84, List.forall_mem_cons.mpr ⟨lw_p85, List.forall_mem_cons.mpr ⟨lw_p86, List.forall_mem_cons.mpr ⟨lw_p87, List.forall_mem_cons.mpr ⟨lw_p88, List.forall_mem_cons.mpr ⟨lw_p89, List.forall_mem_cons.mpr ⟨lw_p90, List.forall_mem_cons.mpr ⟨lw_p91, List.forall_mem_cons.mpr ⟨lw_p92, List.forall_mem_cons.mpr ⟨lw_p93, List.forall_mem_cons.mpr ⟨lw_p94, List.forall_mem_cons.mpr ⟨lw_p95, fun _ h => absurd h List.not_mem_nil⟩⟩⟩⟩⟩⟩⟩⟩⟩⟩⟩⟩⟩⟩⟩⟩
theorem lw_p96 : lw_okq (⟨"TypeFinderModel", "matchEnds", "(I)V"⟩, 80) := ⟨⟨by decide +kernel, by decide +kernel⟩, List.mem_of_getElem? (i := 1579) (by decide +kernel), List.mem_of_getElem? (i := 1986) (by decide +kernel), List.mem_of_getElem? (i := 1987) (by decide +kernel)⟩
theorem lw_p97 : lw_okq (⟨"TypeFinderModel", "bracketEnds", "(I)V"⟩, 80) := ⟨⟨by decide +kernel, by decide +kernel⟩, List.mem_of_getElem? (i := 1579) (by decide +kernel), List.mem_of_getElem? (i := 1990) (by decide +kernel), List.mem_of_getElem? (i := 1991) (by decide +kernel)⟩
theorem lw_p98 : lw_okq (⟨"TypeFinderModel", "refuse", "(I)I"⟩, 80) := ⟨⟨by decide +kernel, by decide +kernel⟩, List.mem_of_getElem? (i := 1579) (by decide +kernel), List.mem_of_getElem? (i := 1994) (by decide +kernel), List.mem_of_getElem? (i := 1995) (by decide +kernel)⟩
theorem lw_p99 : lw_okq (⟨"TypeFinderModel", "run", "()V"⟩, 80) := ⟨⟨by decide +kernel, by decide +kernel⟩, List.mem_of_getElem? (i := 1579) (by decide +kernel), List.mem_of_getElem? (i := 1998) (by decide +kernel), List.mem_of_getElem? (i := 1999) (by decide +kernel)⟩
theorem lw_p100 : lw_okq (⟨"TypeFinderModel", "perform", "(I)V"⟩, 80) := ⟨⟨by decide +kernel, by decide +kernel⟩, List.mem_of_getElem? (i := 1579) (by decide +kernel), List.mem_of_getElem? (i := 2002) (by decide +kernel), List.mem_of_getElem? (i := 2003) (by decide +kernel)⟩
theorem lw_p101 : lw_okq (⟨"TypeFinderModel", "node", "(III)I"⟩, 80) := ⟨⟨by decide +kernel, by decide +kernel⟩, List.mem_of_getElem? (i := 1579) (by decide +kernel), List.mem_of_getElem? (i := 2006) (by decide +kernel), List.mem_of_getElem? (i := 2007) (by decide +kernel)⟩
theorem lw_p102 : lw_okq (⟨"TypeFinderModel", "part", "(I)V"⟩, 80) := ⟨⟨by decide +kernel, by decide +kernel⟩, List.mem_of_getElem? (i := 1579) (by decide +kernel), List.mem_of_getElem? (i := 2010) (by decide +kernel), List.mem_of_getElem? (i := 2011) (by decide +kernel)⟩
theorem lw_p103 : lw_okq (⟨"TypeFinderModel", "push", "(I)V"⟩, 80) := ⟨⟨by decide +kernel, by decide +kernel⟩, List.mem_of_getElem? (i := 1579) (by decide +kernel), List.mem_of_getElem? (i := 2014) (by decide +kernel), List.mem_of_getElem? (i := 2015) (by decide +kernel)⟩
theorem lw_p104 : lw_okq (⟨"TypeFinderModel", "sized", "(I)V"⟩, 80) := ⟨⟨by decide +kernel, by decide +kernel⟩, List.mem_of_getElem? (i := 1579) (by decide +kernel), List.mem_of_getElem? (i := 2018) (by decide +kernel), List.mem_of_getElem? (i := 2019) (by decide +kernel)⟩
theorem lw_p105 : lw_okq (⟨"TypeFinderModel", "sizeOf", "(I)I"⟩, 80) := ⟨⟨by decide +kernel, by decide +kernel⟩, List.mem_of_getElem? (i := 1579) (by decide +kernel), List.mem_of_getElem? (i := 2022) (by decide +kernel), List.mem_of_getElem? (i := 2023) (by decide +kernel)⟩
theorem lw_p106 : lw_okq (⟨"TypeFinderModel", "pileUp", "(I)V"⟩, 80) := ⟨⟨by decide +kernel, by decide +kernel⟩, List.mem_of_getElem? (i := 1579) (by decide +kernel), List.mem_of_getElem? (i := 2026) (by decide +kernel), List.mem_of_getElem? (i := 2027) (by decide +kernel)⟩
theorem lw_p107 : lw_okq (⟨"TypeFinderModel", "whole", "(I)I"⟩, 80) := ⟨⟨by decide +kernel, by decide +kernel⟩, List.mem_of_getElem? (i := 1579) (by decide +kernel), List.mem_of_getElem? (i := 2030) (by decide +kernel), List.mem_of_getElem? (i := 2031) (by decide +kernel)⟩
theorem lw_p108 : lw_okq (⟨"TypeFinderModel", "pileParts", "(I)V"⟩, 80) := ⟨⟨by decide +kernel, by decide +kernel⟩, List.mem_of_getElem? (i := 1579) (by decide +kernel), List.mem_of_getElem? (i := 2034) (by decide +kernel), List.mem_of_getElem? (i := 2035) (by decide +kernel)⟩
theorem lw_p109 : lw_okq (⟨"TypeFinderModel", "fail", "(I)V"⟩, 80) := ⟨⟨by decide +kernel, by decide +kernel⟩, List.mem_of_getElem? (i := 1579) (by decide +kernel), List.mem_of_getElem? (i := 2038) (by decide +kernel), List.mem_of_getElem? (i := 2039) (by decide +kernel)⟩
theorem lw_p110 : lw_okq (⟨"TypeFinderModel", "useOf", "(I)I"⟩, 80) := ⟨⟨by decide +kernel, by decide +kernel⟩, List.mem_of_getElem? (i := 1579) (by decide +kernel), List.mem_of_getElem? (i := 2042) (by decide +kernel), List.mem_of_getElem? (i := 2043) (by decide +kernel)⟩
theorem lw_p111 : lw_okq (⟨"TypeFinderModel", "use", "(I)I"⟩, 80) := ⟨⟨by decide +kernel, by decide +kernel⟩, List.mem_of_getElem? (i := 1579) (by decide +kernel), List.mem_of_getElem? (i := 2046) (by decide +kernel), List.mem_of_getElem? (i := 2047) (by decide +kernel)⟩
def lw_privs_7 : List (MethodName × Nat) := [(⟨"TypeFinderModel", "matchEnds", "(I)V"⟩, 80), (⟨"TypeFinderModel", "bracketEnds", "(I)V"⟩, 80), (⟨"TypeFinderModel", "refuse", "(I)I"⟩, 80), (⟨"TypeFinderModel", "run", "()V"⟩, 80), (⟨"TypeFinderModel", "perform", "(I)V"⟩, 80), (⟨"TypeFinderModel", "node", "(III)I"⟩, 80), (⟨"TypeFinderModel", "part", "(I)V"⟩, 80), (⟨"TypeFinderModel", "push", "(I)V"⟩, 80), (⟨"TypeFinderModel", "sized", "(I)V"⟩, 80), (⟨"TypeFinderModel", "sizeOf", "(I)I"⟩, 80), (⟨"TypeFinderModel", "pileUp", "(I)V"⟩, 80), (⟨"TypeFinderModel", "whole", "(I)I"⟩, 80), (⟨"TypeFinderModel", "pileParts", "(I)V"⟩, 80), (⟨"TypeFinderModel", "fail", "(I)V"⟩, 80), (⟨"TypeFinderModel", "useOf", "(I)I"⟩, 80), (⟨"TypeFinderModel", "use", "(I)I"⟩, 80)]
theorem lw_r7 : ∀ q ∈ lw_privs_7, lw_okq q := List.forall_mem_cons.mpr ⟨lw_p96, List.forall_mem_cons.mpr ⟨lw_p97, List.forall_mem_cons.mpr ⟨lw_p98, List.forall_mem_cons.mpr ⟨lw_p99, List.forall_mem_cons.mpr ⟨lw_p100, List.forall_mem_cons.mpr ⟨lw_p101, List.forall_mem_cons.mpr ⟨lw_p102, List.forall_mem_cons.mpr ⟨lw_p103, List.forall_mem_cons.mpr ⟨lw_p104, List.forall_mem_cons.mpr ⟨lw_p105, List.forall_mem_cons.mpr ⟨lw_p106, List.forall_mem_cons.mpr ⟨lw_p107, List.forall_mem_cons.mpr ⟨lw_p108, List.forall_mem_cons.mpr ⟨lw_p109, List.forall_mem_cons.mpr ⟨lw_p110, List.forall_mem_cons.mpr ⟨lw_p111, fun _ h => absurd h List.not_mem_nil⟩⟩⟩⟩⟩⟩⟩⟩⟩⟩⟩⟩⟩⟩⟩⟩
theorem lw_p112 : lw_okq (⟨"TypeFinderModel", "loose", "(I)Z"⟩, 80) := ⟨⟨by decide +kernel, by decide +kernel⟩, List.mem_of_getElem? (i := 1579) (by decide +kernel), List.mem_of_getElem? (i := 2050) (by decide +kernel), List.mem_of_getElem? (i := 2051) (by decide +kernel)⟩
theorem lw_p113 : lw_okq (⟨"TypeFinderModel", "fresh", "(Z)I"⟩, 80) := ⟨⟨by decide +kernel, by decide +kernel⟩, List.mem_of_getElem? (i := 1579) (by decide +kernel), List.mem_of_getElem? (i := 2054) (by decide +kernel), List.mem_of_getElem? (i := 2055) (by decide +kernel)⟩
theorem lw_p114 : lw_okq (⟨"TypeFinderModel", "pileNeeded", "(I)V"⟩, 80) := ⟨⟨by decide +kernel, by decide +kernel⟩, List.mem_of_getElem? (i := 1579) (by decide +kernel), List.mem_of_getElem? (i := 2058) (by decide +kernel), List.mem_of_getElem? (i := 2059) (by decide +kernel)⟩
theorem lw_p115 : lw_okq (⟨"TypeFinderModel", "copy", "(I)I"⟩, 80) := ⟨⟨by decide +kernel, by decide +kernel⟩, List.mem_of_getElem? (i := 1579) (by decide +kernel), List.mem_of_getElem? (i := 2062) (by decide +kernel), List.mem_of_getElem? (i := 2063) (by decide +kernel)⟩
theorem lw_p116 : lw_okq (⟨"TypeFinderModel", "build", "(ZII)I"⟩, 80) := ⟨⟨by decide +kernel, by decide +kernel⟩, List.mem_of_getElem? (i := 1579) (by decide +kernel), List.mem_of_getElem? (i := 2066) (by decide +kernel), List.mem_of_getElem? (i := 2067) (by decide +kernel)⟩
theorem lw_p117 : lw_okq (⟨"TypeFinderModel", "constructorOf", "(I)I"⟩, 80) := ⟨⟨by decide +kernel, by decide +kernel⟩, List.mem_of_getElem? (i := 1579) (by decide +kernel), List.mem_of_getElem? (i := 2070) (by decide +kernel), List.mem_of_getElem? (i := 2071) (by decide +kernel)⟩
theorem lw_p118 : lw_okq (⟨"TypeFinderModel", "useOfConstructor", "(I)I"⟩, 80) := ⟨⟨by decide +kernel, by decide +kernel⟩, List.mem_of_getElem? (i := 1579) (by decide +kernel), List.mem_of_getElem? (i := 2074) (by decide +kernel), List.mem_of_getElem? (i := 2075) (by decide +kernel)⟩
theorem lw_p119 : lw_okq (⟨"TypeFinderModel", "pop", "()I"⟩, 80) := ⟨⟨by decide +kernel, by decide +kernel⟩, List.mem_of_getElem? (i := 1579) (by decide +kernel), List.mem_of_getElem? (i := 2078) (by decide +kernel), List.mem_of_getElem? (i := 2079) (by decide +kernel)⟩
theorem lw_p120 : lw_okq (⟨"TypeFinderModel", "apply", "(II)V"⟩, 80) := ⟨⟨by decide +kernel, by decide +kernel⟩, List.mem_of_getElem? (i := 1579) (by decide +kernel), List.mem_of_getElem? (i := 2082) (by decide +kernel), List.mem_of_getElem? (i := 2083) (by decide +kernel)⟩
theorem lw_p121 : lw_okq (⟨"TypeFinderModel", "unify", "(II)V"⟩, 80) := ⟨⟨by decide +kernel, by decide +kernel⟩, List.mem_of_getElem? (i := 1579) (by decide +kernel), List.mem_of_getElem? (i := 2086) (by decide +kernel), List.mem_of_getElem? (i := 2087) (by decide +kernel)⟩
theorem lw_p122 : lw_okq (⟨"TypeFinderModel", "point", "(II)V"⟩, 80) := ⟨⟨by decide +kernel, by decide +kernel⟩, List.mem_of_getElem? (i := 1579) (by decide +kernel), List.mem_of_getElem? (i := 2090) (by decide +kernel), List.mem_of_getElem? (i := 2091) (by decide +kernel)⟩
theorem lw_p123 : lw_okq (⟨"TypeFinderModel", "stands", "(II)Z"⟩, 80) := ⟨⟨by decide +kernel, by decide +kernel⟩, List.mem_of_getElem? (i := 1579) (by decide +kernel), List.mem_of_getElem? (i := 2094) (by decide +kernel), List.mem_of_getElem? (i := 2095) (by decide +kernel)⟩
theorem lw_p124 : lw_okq (⟨"TypeFinderModel", "look", "(I)V"⟩, 80) := ⟨⟨by decide +kernel, by decide +kernel⟩, List.mem_of_getElem? (i := 1579) (by decide +kernel), List.mem_of_getElem? (i := 2098) (by decide +kernel), List.mem_of_getElem? (i := 2099) (by decide +kernel)⟩
theorem lw_p125 : lw_okq (⟨"TypeFinderModel", "unseen", "()I"⟩, 80) := ⟨⟨by decide +kernel, by decide +kernel⟩, List.mem_of_getElem? (i := 1579) (by decide +kernel), List.mem_of_getElem? (i := 2102) (by decide +kernel), List.mem_of_getElem? (i := 2103) (by decide +kernel)⟩
theorem lw_p126 : lw_okq (⟨"TypeFinderModel", "compare", "(I)Z"⟩, 80) := ⟨⟨by decide +kernel, by decide +kernel⟩, List.mem_of_getElem? (i := 1579) (by decide +kernel), List.mem_of_getElem? (i := 2106) (by decide +kernel), List.mem_of_getElem? (i := 2107) (by decide +kernel)⟩
theorem lw_p127 : lw_okq (⟨"TypeFinderModel", "operate", "(I)V"⟩, 80) := ⟨⟨by decide +kernel, by decide +kernel⟩, List.mem_of_getElem? (i := 1579) (by decide +kernel), List.mem_of_getElem? (i := 2110) (by decide +kernel), List.mem_of_getElem? (i := 2111) (by decide +kernel)⟩
def lw_privs_8 : List (MethodName × Nat) := [(⟨"TypeFinderModel", "loose", "(I)Z"⟩, 80), (⟨"TypeFinderModel", "fresh", "(Z)I"⟩, 80), (⟨"TypeFinderModel", "pileNeeded", "(I)V"⟩, 80), (⟨"TypeFinderModel", "copy", "(I)I"⟩, 80), (⟨"TypeFinderModel", "build", "(ZII)I"⟩, 80), (⟨"TypeFinderModel", "constructorOf", "(I)I"⟩, 80), (⟨"TypeFinderModel", "useOfConstructor", "(I)I"⟩, 80), (⟨"TypeFinderModel", "pop", "()I"⟩, 80), (⟨"TypeFinderModel", "apply", "(II)V"⟩, 80), (⟨"TypeFinderModel", "unify", "(II)V"⟩, 80), (⟨"TypeFinderModel", "point", "(II)V"⟩, 80), (⟨"TypeFinderModel", "stands", "(II)Z"⟩, 80), (⟨"TypeFinderModel", "look", "(I)V"⟩, 80), (⟨"TypeFinderModel", "unseen", "()I"⟩, 80), (⟨"TypeFinderModel", "compare", "(I)Z"⟩, 80), (⟨"TypeFinderModel", "operate", "(I)V"⟩, 80)]
theorem lw_r8 : ∀ q ∈ lw_privs_8, lw_okq q := List.forall_mem_cons.mpr ⟨lw_p112, List.forall_mem_cons.mpr ⟨lw_p113, List.forall_mem_cons.mpr ⟨lw_p114, List.forall_mem_cons.mpr ⟨lw_p115, List.forall_mem_cons.mpr ⟨lw_p116, List.forall_mem_cons.mpr ⟨lw_p117, List.forall_mem_cons.mpr ⟨lw_p118, List.forall_mem_cons.mpr ⟨lw_p119, List.forall_mem_cons.mpr ⟨lw_p120, List.forall_mem_cons.mpr ⟨lw_p121, List.forall_mem_cons.mpr ⟨lw_p122, List.forall_mem_cons.mpr ⟨lw_p123, List.forall_mem_cons.mpr ⟨lw_p124, List.forall_mem_cons.mpr ⟨lw_p125, List.forall_mem_cons.mpr ⟨lw_p126, List.forall_mem_cons.mpr ⟨lw_p127, fun _ h => absurd h List.not_mem_nil⟩⟩⟩⟩⟩⟩⟩⟩⟩⟩⟩⟩⟩⟩⟩⟩
theorem lw_p128 : lw_okq (⟨"TypeFinderModel", "bind", "(II)V"⟩, 80) := ⟨⟨by decide +kernel, by decide +kernel⟩, List.mem_of_getElem? (i := 1579) (by decide +kernel), List.mem_of_getElem? (i := 2114) (by decide +kernel), List.mem_of_getElem? (i := 2115) (by decide +kernel)⟩
theorem lw_p129 : lw_okq (⟨"TypeFinderModel", "generalise", "(II)V"⟩, 80) := ⟨⟨by decide +kernel, by decide +kernel⟩, List.mem_of_getElem? (i := 1579) (by decide +kernel), List.mem_of_getElem? (i := 2118) (by decide +kernel), List.mem_of_getElem? (i := 2119) (by decide +kernel)⟩
theorem lw_p130 : lw_okq (⟨"TypeFinderModel", "define", "(I)V"⟩, 80) := ⟨⟨by decide +kernel, by decide +kernel⟩, List.mem_of_getElem? (i := 1579) (by decide +kernel), List.mem_of_getElem? (i := 2122) (by decide +kernel), List.mem_of_getElem? (i := 2123) (by decide +kernel)⟩
theorem lw_p131 : lw_okq (⟨"TypeFinderModel", "choose", "(II)V"⟩, 80) := ⟨⟨by decide +kernel, by decide +kernel⟩, List.mem_of_getElem? (i := 1579) (by decide +kernel), List.mem_of_getElem? (i := 2126) (by decide +kernel), List.mem_of_getElem? (i := 2127) (by decide +kernel)⟩
theorem lw_p132 : lw_okq (⟨"TypeFinderModel", "endCase", "()V"⟩, 80) := ⟨⟨by decide +kernel, by decide +kernel⟩, List.mem_of_getElem? (i := 1579) (by decide +kernel), List.mem_of_getElem? (i := 2130) (by decide +kernel), List.mem_of_getElem? (i := 2131) (by decide +kernel)⟩
theorem lw_p133 : lw_okq (⟨"TypeFinderModel", "allConstructors", "()Z"⟩, 80) := ⟨⟨by decide +kernel, by decide +kernel⟩, List.mem_of_getElem? (i := 1579) (by decide +kernel), List.mem_of_getElem? (i := 2134) (by decide +kernel), List.mem_of_getElem? (i := 2135) (by decide +kernel)⟩
theorem lw_p134 : lw_okq (⟨"TypeFinderModel", "all", "(I)Z"⟩, 80) := ⟨⟨by decide +kernel, by decide +kernel⟩, List.mem_of_getElem? (i := 1579) (by decide +kernel), List.mem_of_getElem? (i := 2138) (by decide +kernel), List.mem_of_getElem? (i := 2139) (by decide +kernel)⟩
theorem lw_p135 : lw_okq (⟨"TypeFinderModel", "pattern", "(II)V"⟩, 80) := ⟨⟨by decide +kernel, by decide +kernel⟩, List.mem_of_getElem? (i := 1579) (by decide +kernel), List.mem_of_getElem? (i := 2142) (by decide +kernel), List.mem_of_getElem? (i := 2143) (by decide +kernel)⟩
theorem lw_p136 : lw_okq (⟨"TypeFinderModel", "variableFor", "(I)I"⟩, 80) := ⟨⟨by decide +kernel, by decide +kernel⟩, List.mem_of_getElem? (i := 1579) (by decide +kernel), List.mem_of_getElem? (i := 2146) (by decide +kernel), List.mem_of_getElem? (i := 2147) (by decide +kernel)⟩
theorem lw_p137 : lw_okq (⟨"TypeFinderModel", "needless", "()Z"⟩, 80) := ⟨⟨by decide +kernel, by decide +kernel⟩, List.mem_of_getElem? (i := 1579) (by decide +kernel), List.mem_of_getElem? (i := 2150) (by decide +kernel), List.mem_of_getElem? (i := 2151) (by decide +kernel)⟩
theorem lw_p138 : lw_okq (⟨"TypeFinderModel", "write", "(I)V"⟩, 80) := ⟨⟨by decide +kernel, by decide +kernel⟩, List.mem_of_getElem? (i := 1579) (by decide +kernel), List.mem_of_getElem? (i := 2154) (by decide +kernel), List.mem_of_getElem? (i := 2155) (by decide +kernel)⟩
theorem lw_p139 : lw_okq (⟨"TypeFinderModel", "later", "(I)V"⟩, 80) := ⟨⟨by decide +kernel, by decide +kernel⟩, List.mem_of_getElem? (i := 1579) (by decide +kernel), List.mem_of_getElem? (i := 2158) (by decide +kernel), List.mem_of_getElem? (i := 2159) (by decide +kernel)⟩
theorem lw_p140 : lw_okq (⟨"TypeFinderModel", "show", "(I)V"⟩, 80) := ⟨⟨by decide +kernel, by decide +kernel⟩, List.mem_of_getElem? (i := 1579) (by decide +kernel), List.mem_of_getElem? (i := 2162) (by decide +kernel), List.mem_of_getElem? (i := 2163) (by decide +kernel)⟩
theorem lw_p141 : lw_okq (⟨"TypeFinderModel", "writeParts", "(II)V"⟩, 80) := ⟨⟨by decide +kernel, by decide +kernel⟩, List.mem_of_getElem? (i := 1579) (by decide +kernel), List.mem_of_getElem? (i := 2166) (by decide +kernel), List.mem_of_getElem? (i := 2167) (by decide +kernel)⟩
theorem lw_p142 : lw_okq (⟨"TypeFinderModel", "showWord", "(I)V"⟩, 80) := ⟨⟨by decide +kernel, by decide +kernel⟩, List.mem_of_getElem? (i := 1579) (by decide +kernel), List.mem_of_getElem? (i := 2170) (by decide +kernel), List.mem_of_getElem? (i := 2171) (by decide +kernel)⟩
theorem lw_p143 : lw_okq (⟨"TypeFinderModel", "declareData", "()I"⟩, 80) := ⟨⟨by decide +kernel, by decide +kernel⟩, List.mem_of_getElem? (i := 1579) (by decide +kernel), List.mem_of_getElem? (i := 2178) (by decide +kernel), List.mem_of_getElem? (i := 2179) (by decide +kernel)⟩
def lw_privs_9 : List (MethodName × Nat) := [(⟨"TypeFinderModel", "bind", "(II)V"⟩, 80), (⟨"TypeFinderModel", "generalise", "(II)V"⟩, 80), (⟨"TypeFinderModel", "define", "(I)V"⟩, 80), (⟨"TypeFinderModel", "choose", "(II)V"⟩, 80), (⟨"TypeFinderModel", "endCase", "()V"⟩, 80), (⟨"TypeFinderModel", "allConstructors", "()Z"⟩, 80), (⟨"TypeFinderModel", "all", "(I)Z"⟩, 80), (⟨"TypeFinderModel", "pattern", "(II)V"⟩, 80), (⟨"TypeFinderModel", "variableFor", "(I)I"⟩, 80), (⟨"TypeFinderModel", "needless", "()Z"⟩, 80), (⟨"TypeFinderModel", "write", "(I)V"⟩, 80), (⟨"TypeFinderModel", "later", "(I)V"⟩, 80), (⟨"TypeFinderModel", "show", "(I)V"⟩, 80), (⟨"TypeFinderModel", "writeParts", "(II)V"⟩, 80), (⟨"TypeFinderModel", "showWord", "(I)V"⟩, 80), (⟨"TypeFinderModel", "declareData", "()I"⟩, 80)]
theorem lw_r9 : ∀ q ∈ lw_privs_9, lw_okq q := List.forall_mem_cons.mpr ⟨lw_p128, List.forall_mem_cons.mpr ⟨lw_p129, List.forall_mem_cons.mpr ⟨lw_p130, List.forall_mem_cons.mpr ⟨lw_p131, List.forall_mem_cons.mpr ⟨lw_p132, List.forall_mem_cons.mpr ⟨lw_p133, List.forall_mem_cons.mpr ⟨lw_p134, List.forall_mem_cons.mpr ⟨lw_p135, List.forall_mem_cons.mpr ⟨lw_p136, List.forall_mem_cons.mpr ⟨lw_p137, List.forall_mem_cons.mpr ⟨lw_p138, List.forall_mem_cons.mpr ⟨lw_p139, List.forall_mem_cons.mpr ⟨lw_p140, List.forall_mem_cons.mpr ⟨lw_p141, List.forall_mem_cons.mpr ⟨lw_p142, List.forall_mem_cons.mpr ⟨lw_p143, fun _ h => absurd h List.not_mem_nil⟩⟩⟩⟩⟩⟩⟩⟩⟩⟩⟩⟩⟩⟩⟩⟩
theorem lw_p144 : lw_okq (⟨"TypeFinderModel", "readData", "()V"⟩, 80) := ⟨⟨by decide +kernel, by decide +kernel⟩, List.mem_of_getElem? (i := 1579) (by decide +kernel), List.mem_of_getElem? (i := 2182) (by decide +kernel), List.mem_of_getElem? (i := 2183) (by decide +kernel)⟩
theorem lw_p145 : lw_okq (⟨"TypeFinderModel", "typeAtom", "(I)Z"⟩, 80) := ⟨⟨by decide +kernel, by decide +kernel⟩, List.mem_of_getElem? (i := 1579) (by decide +kernel), List.mem_of_getElem? (i := 2186) (by decide +kernel), List.mem_of_getElem? (i := 2187) (by decide +kernel)⟩
theorem lw_p146 : lw_okq (⟨"TypeFinderModel", "readAtom", "()V"⟩, 80) := ⟨⟨by decide +kernel, by decide +kernel⟩, List.mem_of_getElem? (i := 1579) (by decide +kernel), List.mem_of_getElem? (i := 2190) (by decide +kernel), List.mem_of_getElem? (i := 2191) (by decide +kernel)⟩
theorem lw_p147 : lw_okq (⟨"TypeFinderModel", "beginAtom", "()V"⟩, 80) := ⟨⟨by decide +kernel, by decide +kernel⟩, List.mem_of_getElem? (i := 1579) (by decide +kernel), List.mem_of_getElem? (i := 2194) (by decide +kernel), List.mem_of_getElem? (i := 2195) (by decide +kernel)⟩
theorem lw_p148 : lw_okq (⟨"TypeFinderModel", "openType", "(II)V"⟩, 80) := ⟨⟨by decide +kernel, by decide +kernel⟩, List.mem_of_getElem? (i := 1579) (by decide +kernel), List.mem_of_getElem? (i := 2198) (by decide +kernel), List.mem_of_getElem? (i := 2199) (by decide +kernel)⟩
theorem lw_p149 : lw_okq (⟨"TypeFinderModel", "addPiece", "(III)V"⟩, 80) := ⟨⟨by decide +kernel, by decide +kernel⟩, List.mem_of_getElem? (i := 1579) (by decide +kernel), List.mem_of_getElem? (i := 2202) (by decide +kernel), List.mem_of_getElem? (i := 2203) (by decide +kernel)⟩
theorem lw_p150 : lw_okq (⟨"TypeFinderModel", "beginType", "()V"⟩, 80) := ⟨⟨by decide +kernel, by decide +kernel⟩, List.mem_of_getElem? (i := 1579) (by decide +kernel), List.mem_of_getElem? (i := 2206) (by decide +kernel), List.mem_of_getElem? (i := 2207) (by decide +kernel)⟩
theorem lw_p151 : lw_okq (⟨"TypeFinderModel", "typeGoesOn", "()V"⟩, 80) := ⟨⟨by decide +kernel, by decide +kernel⟩, List.mem_of_getElem? (i := 1579) (by decide +kernel), List.mem_of_getElem? (i := 2210) (by decide +kernel), List.mem_of_getElem? (i := 2211) (by decide +kernel)⟩
theorem lw_p152 : lw_okq (⟨"TypeFinderModel", "settle", "(I)V"⟩, 80) := ⟨⟨by decide +kernel, by decide +kernel⟩, List.mem_of_getElem? (i := 1579) (by decide +kernel), List.mem_of_getElem? (i := 2214) (by decide +kernel), List.mem_of_getElem? (i := 2215) (by decide +kernel)⟩
theorem lw_p153 : lw_okq (⟨"TypeFinderModel", "dataOf", "(II)I"⟩, 80) := ⟨⟨by decide +kernel, by decide +kernel⟩, List.mem_of_getElem? (i := 1579) (by decide +kernel), List.mem_of_getElem? (i := 2218) (by decide +kernel), List.mem_of_getElem? (i := 2219) (by decide +kernel)⟩
theorem lw_p154 : lw_okq (⟨"TypeFinderModel", "comparable", "(I)Z"⟩, 80) := ⟨⟨by decide +kernel, by decide +kernel⟩, List.mem_of_getElem? (i := 1579) (by decide +kernel), List.mem_of_getElem? (i := 2222) (by decide +kernel), List.mem_of_getElem? (i := 2223) (by decide +kernel)⟩
theorem lw_p155 : lw_okq (⟨"TypeFinderModel", "addConstructor", "(I)V"⟩, 80) := ⟨⟨by decide +kernel, by decide +kernel⟩, List.mem_of_getElem? (i := 1579) (by decide +kernel), List.mem_of_getElem? (i := 2226) (by decide +kernel), List.mem_of_getElem? (i := 2227) (by decide +kernel)⟩
theorem lw_p156 : lw_okq (⟨"TypeFinderModel", "keep", "(IZI)I"⟩, 80) := ⟨⟨by decide +kernel, by decide +kernel⟩, List.mem_of_getElem? (i := 1579) (by decide +kernel), List.mem_of_getElem? (i := 2230) (by decide +kernel), List.mem_of_getElem? (i := 2231) (by decide +kernel)⟩
theorem lw_p157 : lw_okq (⟨"TypeFinderModel", "heading", "()I"⟩, 80) := ⟨⟨by decide +kernel, by decide +kernel⟩, List.mem_of_getElem? (i := 1579) (by decide +kernel), List.mem_of_getElem? (i := 2234) (by decide +kernel), List.mem_of_getElem? (i := 2235) (by decide +kernel)⟩
theorem lw_p158 : lw_okq (⟨"TypeFinderModel", "unsettled", "(I)Z"⟩, 80) := ⟨⟨by decide +kernel, by decide +kernel⟩, List.mem_of_getElem? (i := 1579) (by decide +kernel), List.mem_of_getElem? (i := 2238) (by decide +kernel), List.mem_of_getElem? (i := 2239) (by decide +kernel)⟩
def lw_privs_10 : List (MethodName × Nat) := [(⟨"TypeFinderModel", "readData", "()V"⟩, 80), (⟨"TypeFinderModel", "typeAtom", "(I)Z"⟩, 80), (⟨"TypeFinderModel", "readAtom", "()V"⟩, 80), (⟨"TypeFinderModel", "beginAtom", "()V"⟩, 80), (⟨"TypeFinderModel", "openType", "(II)V"⟩, 80), (⟨"TypeFinderModel", "addPiece", "(III)V"⟩, 80), (⟨"TypeFinderModel", "beginType", "()V"⟩, 80), (⟨"TypeFinderModel", "typeGoesOn", "()V"⟩, 80), (⟨"TypeFinderModel", "settle", "(I)V"⟩, 80), (⟨"TypeFinderModel", "dataOf", "(II)I"⟩, 80), (⟨"TypeFinderModel", "comparable", "(I)Z"⟩, 80), (⟨"TypeFinderModel", "addConstructor", "(I)V"⟩, 80), (⟨"TypeFinderModel", "keep", "(IZI)I"⟩, 80), (⟨"TypeFinderModel", "heading", "()I"⟩, 80), (⟨"TypeFinderModel", "unsettled", "(I)Z"⟩, 80)]
theorem lw_r10 : ∀ q ∈ lw_privs_10, lw_okq q := List.forall_mem_cons.mpr ⟨lw_p144, List.forall_mem_cons.mpr ⟨lw_p145, List.forall_mem_cons.mpr ⟨lw_p146, List.forall_mem_cons.mpr ⟨lw_p147, List.forall_mem_cons.mpr ⟨lw_p148, List.forall_mem_cons.mpr ⟨lw_p149, List.forall_mem_cons.mpr ⟨lw_p150, List.forall_mem_cons.mpr ⟨lw_p151, List.forall_mem_cons.mpr ⟨lw_p152, List.forall_mem_cons.mpr ⟨lw_p153, List.forall_mem_cons.mpr ⟨lw_p154, List.forall_mem_cons.mpr ⟨lw_p155, List.forall_mem_cons.mpr ⟨lw_p156, List.forall_mem_cons.mpr ⟨lw_p157, List.forall_mem_cons.mpr ⟨lw_p158, fun _ h => absurd h List.not_mem_nil⟩⟩⟩⟩⟩⟩⟩⟩⟩⟩⟩⟩⟩⟩⟩
def lw_privs : List (MethodName × Nat) := lw_privs_1 ++ (lw_privs_2 ++ (lw_privs_3 ++ (lw_privs_4 ++ (lw_privs_5 ++ (lw_privs_6 ++ (lw_privs_7 ++ (lw_privs_8 ++ (lw_privs_9 ++ (lw_privs_10)))))))))
def lw_tbl : List Cond := k2_sels lw_privs ++ tables_1
theorem lw_privs_ok : ∀ q ∈ lw_privs, lw_okq q := by
  show ∀ q ∈ lw_privs_1 ++ (lw_privs_2 ++ (lw_privs_3 ++ (lw_privs_4 ++ (lw_privs_5 ++ (lw_privs_6 ++ (lw_privs_7 ++ (lw_privs_8 ++ (lw_privs_9 ++ (lw_privs_10))))))))), lw_okq q
  exact List.forall_mem_append.mpr ⟨lw_r1, List.forall_mem_append.mpr ⟨lw_r2, List.forall_mem_append.mpr ⟨lw_r3, List.forall_mem_append.mpr ⟨lw_r4, List.forall_mem_append.mpr ⟨lw_r5, List.forall_mem_append.mpr ⟨lw_r6, List.forall_mem_append.mpr ⟨lw_r7, List.forall_mem_append.mpr ⟨lw_r8, List.forall_mem_append.mpr ⟨lw_r9, lw_r10⟩⟩⟩⟩⟩⟩⟩⟩⟩
end
section
def R_0 : String := "TypeFinder"
def F_0 : u_T := fun k => match k with
  | 0 => ("TypeFinder", "draft", "[C", true)
  | 1 => ("TypeFinder", "parser", "LTypeFinder$Parser;", true)
  | 2 => ("TypeFinder", "known", "LTypeFinder$Known;", true)
  | 3 => ("TypeFinder", "checker", "LTypeFinder$Checker;", true)
  | 4 => ("TypeFinder", "writer", "LTypeFinder$Writer;", true)
  | 5 => ("TypeFinder", "length", "I", false)
  | 6 => ("TypeFinder", "refusals", "I", false)
  | 7 => ("TypeFinder", "openCases", "I", false)
  | _ => ("TypeFinder", "idleAlternatives", "I", false)
def t_0 : Nat → FieldType := fun k => match k with
  | 0 => .array .char
  | 1 => .object "TypeFinder$Parser"
  | 2 => .object "TypeFinder$Known"
  | 3 => .object "TypeFinder$Checker"
  | 4 => .object "TypeFinder$Writer"
  | 5 => .int
  | 6 => .int
  | 7 => .int
  | _ => .int
def R_1 : String := "TypeFinder$Parser"
def F_1 : u_T := fun k => match k with
  | 0 => ("TypeFinder$Parser", "tokens", "LTypeFinder$Tokens;", true)
  | 1 => ("TypeFinder$Parser", "dataParser", "LTypeFinder$DataParser;", true)
  | 2 => ("TypeFinder$Parser", "levels", "[I", true)
  | _ => ("TypeFinder$Parser", "rights", "[Z", true)
def t_1 : Nat → FieldType := fun k => match k with
  | 0 => .object "TypeFinder$Tokens"
  | 1 => .object "TypeFinder$DataParser"
  | 2 => .array .int
  | _ => .array .boolean
def R_2 : String := "TypeFinder$Tokens"
def F_2 : u_T := fun k => match k with
  | 0 => ("TypeFinder$Tokens", "kinds", "[I", true)
  | 1 => ("TypeFinder$Tokens", "values", "[J", true)
  | 2 => ("TypeFinder$Tokens", "keywords", "[J", true)
  | 3 => ("TypeFinder$Tokens", "size", "I", false)
  | _ => ("TypeFinder$Tokens", "at", "I", false)
def t_2 : Nat → FieldType := fun k => match k with
  | 0 => .array .int
  | 1 => .array .long
  | 2 => .array .long
  | 3 => .int
  | _ => .int
def R_3 : String := "TypeFinder$DataParser"
def F_3 : u_T := fun k => match k with
  | _ => ("TypeFinder$DataParser", "tokens", "LTypeFinder$Tokens;", true)
def t_3 : Nat → FieldType := fun k => match k with
  | _ => .object "TypeFinder$Tokens"
def R_4 : String := "TypeFinder$Known"
def F_4 : u_T := fun k => match k with
  | 0 => ("TypeFinder$Known", "integer", "LTypeFinder$Type;", true)
  | 1 => ("TypeFinder$Known", "truth", "LTypeFinder$Type;", true)
  | 2 => ("TypeFinder$Known", "dataTypes", "Ljava/util/ArrayList;", true)
  | 3 => ("TypeFinder$Known", "names", "Ljava/util/ArrayList;", true)
  | _ => ("TypeFinder$Known", "firstNames", "I", true)
def t_4 : Nat → FieldType := fun k => match k with
  | 0 => .object "TypeFinder$Type"
  | 1 => .object "TypeFinder$Type"
  | 2 => .object "java/util/ArrayList"
  | 3 => .object "java/util/ArrayList"
  | _ => .int
def R_5 : String := "TypeFinder$Type"
def F_5 : u_T := fun k => match k with
  | 0 => ("TypeFinder$Type", "kind", "I", false)
  | 1 => ("TypeFinder$Type", "comparable", "Z", false)
  | 2 => ("TypeFinder$Type", "data", "LTypeFinder$DataType;", true)
  | 3 => ("TypeFinder$Type", "left", "LTypeFinder$Type;", true)
  | 4 => ("TypeFinder$Type", "right", "LTypeFinder$Type;", true)
  | 5 => ("TypeFinder$Type", "link", "LTypeFinder$Type;", false)
  | 6 => ("TypeFinder$Type", "twin", "LTypeFinder$Type;", false)
  | _ => ("TypeFinder$Type", "mark", "I", false)
def t_5 : Nat → FieldType := fun k => match k with
  | 0 => .int
  | 1 => .boolean
  | 2 => .object "TypeFinder$DataType"
  | 3 => .object "TypeFinder$Type"
  | 4 => .object "TypeFinder$Type"
  | 5 => .object "TypeFinder$Type"
  | 6 => .object "TypeFinder$Type"
  | _ => .int
def R_6 : String := "TypeFinder$DataType"
def F_6 : u_T := fun k => match k with
  | 0 => ("TypeFinder$DataType", "word", "J", true)
  | 1 => ("TypeFinder$DataType", "parameters", "I", true)
  | 2 => ("TypeFinder$DataType", "constructors", "Ljava/util/ArrayList;", true)
  | 3 => ("TypeFinder$DataType", "whole", "LTypeFinder$Type;", false)
  | _ => ("TypeFinder$DataType", "allows", "Z", false)
def t_6 : Nat → FieldType := fun k => match k with
  | 0 => .long
  | 1 => .int
  | 2 => .object "java/util/ArrayList"
  | 3 => .object "TypeFinder$Type"
  | _ => .boolean
def R_7 : String := "TypeFinder$Name"
def F_7 : u_T := fun k => match k with
  | 0 => ("TypeFinder$Name", "word", "J", true)
  | 1 => ("TypeFinder$Name", "type", "LTypeFinder$Type;", true)
  | _ => ("TypeFinder$Name", "general", "Z", true)
def t_7 : Nat → FieldType := fun k => match k with
  | 0 => .long
  | 1 => .object "TypeFinder$Type"
  | _ => .boolean
def R_8 : String := "TypeFinder$Checker"
def F_8 : u_T := fun k => match k with
  | 0 => ("TypeFinder$Checker", "known", "LTypeFinder$Known;", true)
  | 1 => ("TypeFinder$Checker", "unifier", "LTypeFinder$Unifier;", true)
  | 2 => ("TypeFinder$Checker", "scope", "Ljava/util/ArrayList;", true)
  | 3 => ("TypeFinder$Checker", "operands", "Ljava/util/ArrayList;", true)
  | 4 => ("TypeFinder$Checker", "openCases", "I", false)
  | _ => ("TypeFinder$Checker", "idleAlternatives", "I", false)
def t_8 : Nat → FieldType := fun k => match k with
  | 0 => .object "TypeFinder$Known"
  | 1 => .object "TypeFinder$Unifier"
  | 2 => .object "java/util/ArrayList"
  | 3 => .object "java/util/ArrayList"
  | 4 => .int
  | _ => .int
def R_9 : String := "TypeFinder$Unifier"
def F_9 : u_T := fun k => match k with
  | 0 => ("TypeFinder$Unifier", "todo", "Ljava/util/ArrayList;", true)
  | 1 => ("TypeFinder$Unifier", "open", "Ljava/util/ArrayList;", true)
  | 2 => ("TypeFinder$Unifier", "walk", "Ljava/util/ArrayList;", true)
  | _ => ("TypeFinder$Unifier", "walks", "I", false)
def t_9 : Nat → FieldType := fun k => match k with
  | 0 => .object "java/util/ArrayList"
  | 1 => .object "java/util/ArrayList"
  | 2 => .object "java/util/ArrayList"
  | _ => .int
def R_10 : String := "TypeFinder$Writer"
def F_10 : u_T := fun k => match k with
  | 0 => ("TypeFinder$Writer", "text", "Ljava/lang/StringBuilder;", true)
  | _ => ("TypeFinder$Writer", "variables", "Ljava/util/ArrayList;", true)
def t_10 : Nat → FieldType := fun k => match k with
  | 0 => .object "java/lang/StringBuilder"
  | _ => .object "java/util/ArrayList"
def R_11 : String := "java/util/ArrayList"
def F_11 : u_T := fun k => match k with
  | 0 => ("java/util/AbstractList", "modCount", "I", false)
  | 1 => ("java/util/ArrayList", "elementData", "[Ljava/lang/Object;", false)
  | _ => ("java/util/ArrayList", "size", "I", false)
def t_11 : Nat → FieldType := fun k => match k with
  | 0 => .int
  | 1 => .array (.object "java/lang/Object")
  | _ => .int
def R_12 : String := "java/lang/StringBuilder"
def F_12 : u_T := fun k => match k with
  | 0 => ("java/lang/AbstractStringBuilder", "value", "[B", false)
  | 1 => ("java/lang/AbstractStringBuilder", "coder", "B", false)
  | 2 => ("java/lang/AbstractStringBuilder", "maybeLatin1", "Z", false)
  | _ => ("java/lang/AbstractStringBuilder", "count", "I", false)
def t_12 : Nat → FieldType := fun k => match k with
  | 0 => .array .byte
  | 1 => .byte
  | 2 => .boolean
  | _ => .int
def R_13 : String := "java/lang/String"
def F_13 : u_T := fun k => match k with
  | 0 => ("java/lang/String", "value", "[B", true)
  | 1 => ("java/lang/String", "coder", "B", true)
  | 2 => ("java/lang/String", "hash", "I", false)
  | _ => ("java/lang/String", "hashIsZero", "Z", false)
def t_13 : Nat → FieldType := fun k => match k with
  | 0 => .array .byte
  | 1 => .byte
  | 2 => .int
  | _ => .boolean
def R_14 : String := "TypeFinderModel"
def F_14 : u_T := fun k => match k with
  | 0 => ("TypeFinderModel", "code", "I", false)
  | 1 => ("TypeFinderModel", "failures", "I", false)
  | 2 => ("TypeFinderModel", "drafted", "I", false)
  | 3 => ("TypeFinderModel", "draft", "[I", true)
  | 4 => ("TypeFinderModel", "signs", "I", false)
  | 5 => ("TypeFinderModel", "sign", "[I", true)
  | 6 => ("TypeFinderModel", "worth", "[I", true)
  | 7 => ("TypeFinderModel", "level", "[I", true)
  | 8 => ("TypeFinderModel", "rightly", "[Z", true)
  | 9 => ("TypeFinderModel", "names", "I", false)
  | 10 => ("TypeFinderModel", "nameOf", "[I", true)
  | 11 => ("TypeFinderModel", "rowSize", "[I", true)
  | 12 => ("TypeFinderModel", "rows", "[I", true)
  | 13 => ("TypeFinderModel", "datas", "I", false)
  | 14 => ("TypeFinderModel", "dataWord", "[I", true)
  | 15 => ("TypeFinderModel", "parameters", "[I", true)
  | 16 => ("TypeFinderModel", "alternatives", "[I", true)
  | 17 => ("TypeFinderModel", "allows", "[Z", true)
  | 18 => ("TypeFinderModel", "constructors", "I", false)
  | 19 => ("TypeFinderModel", "constructorWord", "[I", true)
  | 20 => ("TypeFinderModel", "constructorData", "[I", true)
  | 21 => ("TypeFinderModel", "constructorParts", "[I", true)
  | 22 => ("TypeFinderModel", "constructorSize", "[I", true)
  | 23 => ("TypeFinderModel", "constructorRow", "[I", true)
  | 24 => ("TypeFinderModel", "at", "I", false)
  | 25 => ("TypeFinderModel", "bad", "Z", false)
  | 26 => ("TypeFinderModel", "steps", "I", false)
  | 27 => ("TypeFinderModel", "step", "[I", true)
  | 28 => ("TypeFinderModel", "one", "[I", true)
  | 29 => ("TypeFinderModel", "two", "[I", true)
  | 30 => ("TypeFinderModel", "opened", "I", false)
  | 31 => ("TypeFinderModel", "open", "[I", true)
  | 32 => ("TypeFinderModel", "deep", "[I", true)
  | 33 => ("TypeFinderModel", "first", "[I", true)
  | 34 => ("TypeFinderModel", "second", "[I", true)
  | 35 => ("TypeFinderModel", "third", "[I", true)
  | 36 => ("TypeFinderModel", "flags", "[I", true)
  | 37 => ("TypeFinderModel", "depth", "I", false)
  | 38 => ("TypeFinderModel", "flag", "I", false)
  | 39 => ("TypeFinderModel", "state", "I", false)
  | 40 => ("TypeFinderModel", "waiting", "I", false)
  | 41 => ("TypeFinderModel", "waits", "[I", true)
  | 42 => ("TypeFinderModel", "types", "I", false)
  | 43 => ("TypeFinderModel", "kind", "[I", true)
  | 44 => ("TypeFinderModel", "left", "[I", true)
  | 45 => ("TypeFinderModel", "right", "[I", true)
  | 46 => ("TypeFinderModel", "seen", "[I", true)
  | 47 => ("TypeFinderModel", "copied", "[I", true)
  | 48 => ("TypeFinderModel", "stamp", "I", false)
  | 49 => ("TypeFinderModel", "pile", "I", false)
  | 50 => ("TypeFinderModel", "piled", "[I", true)
  | 51 => ("TypeFinderModel", "also", "[I", true)
  | 52 => ("TypeFinderModel", "held", "I", false)
  | 53 => ("TypeFinderModel", "hold", "[I", true)
  | 54 => ("TypeFinderModel", "bound", "I", false)
  | 55 => ("TypeFinderModel", "boundWord", "[I", true)
  | 56 => ("TypeFinderModel", "boundType", "[I", true)
  | 57 => ("TypeFinderModel", "cases", "I", false)
  | 58 => ("TypeFinderModel", "found", "[I", true)
  | 59 => ("TypeFinderModel", "firstPattern", "[I", true)
  | 60 => ("TypeFinderModel", "patterns", "I", false)
  | 61 => ("TypeFinderModel", "patternKind", "[I", true)
  | 62 => ("TypeFinderModel", "patternOf", "[I", true)
  | 63 => ("TypeFinderModel", "failed", "I", false)
  | 64 => ("TypeFinderModel", "idle", "I", false)
  | 65 => ("TypeFinderModel", "holes", "I", false)
  | 66 => ("TypeFinderModel", "matched", "[I", true)
  | 67 => ("TypeFinderModel", "shown", "I", false)
  | 68 => ("TypeFinderModel", "text", "[I", true)
  | 69 => ("TypeFinderModel", "defined", "I", false)
  | 70 => ("TypeFinderModel", "self", "I", false)
  | 71 => ("TypeFinderModel", "selfParameters", "I", false)
  | 72 => ("TypeFinderModel", "pieces", "I", false)
  | 73 => ("TypeFinderModel", "piece", "[I", true)
  | 74 => ("TypeFinderModel", "pieceWord", "[I", true)
  | 75 => ("TypeFinderModel", "pieceParts", "[I", true)
  | 76 => ("TypeFinderModel", "parameterWord", "[I", true)
  | 77 => ("TypeFinderModel", "choices", "I", false)
  | 78 => ("TypeFinderModel", "choiceWord", "[I", true)
  | _ => ("TypeFinderModel", "choiceParts", "[I", true)
def t_14 : Nat → FieldType := fun k => match k with
  | 0 => .int
  | 1 => .int
  | 2 => .int
  | 3 => .array .int
  | 4 => .int
  | 5 => .array .int
  | 6 => .array .int
  | 7 => .array .int
  | 8 => .array .boolean
  | 9 => .int
  | 10 => .array .int
  | 11 => .array .int
  | 12 => .array .int
  | 13 => .int
  | 14 => .array .int
  | 15 => .array .int
  | 16 => .array .int
  | 17 => .array .boolean
  | 18 => .int
  | 19 => .array .int
  | 20 => .array .int
  | 21 => .array .int
  | 22 => .array .int
  | 23 => .array .int
  | 24 => .int
  | 25 => .boolean
  | 26 => .int
  | 27 => .array .int
  | 28 => .array .int
  | 29 => .array .int
  | 30 => .int
  | 31 => .array .int
  | 32 => .array .int
  | 33 => .array .int
  | 34 => .array .int
  | 35 => .array .int
  | 36 => .array .int
  | 37 => .int
  | 38 => .int
  | 39 => .int
  | 40 => .int
  | 41 => .array .int
  | 42 => .int
  | 43 => .array .int
  | 44 => .array .int
  | 45 => .array .int
  | 46 => .array .int
  | 47 => .array .int
  | 48 => .int
  | 49 => .int
  | 50 => .array .int
  | 51 => .array .int
  | 52 => .int
  | 53 => .array .int
  | 54 => .int
  | 55 => .array .int
  | 56 => .array .int
  | 57 => .int
  | 58 => .array .int
  | 59 => .array .int
  | 60 => .int
  | 61 => .array .int
  | 62 => .array .int
  | 63 => .int
  | 64 => .int
  | 65 => .int
  | 66 => .array .int
  | 67 => .int
  | 68 => .array .int
  | 69 => .int
  | 70 => .int
  | 71 => .int
  | 72 => .int
  | 73 => .array .int
  | 74 => .array .int
  | 75 => .array .int
  | 76 => .array .int
  | 77 => .int
  | 78 => .array .int
  | _ => .array .int
abbrev xb_cl : List vw_C := [(R_0, F_0, 9), (R_1, F_1, 4), (R_2, F_2, 5), (R_3, F_3, 1), (R_4, F_4, 5), (R_5, F_5, 8), (R_6, F_6, 5), (R_7, F_7, 3), (R_8, F_8, 6), (R_9, F_9, 4), (R_10, F_10, 2), (R_11, F_11, 3), (R_12, F_12, 4), (R_13, F_13, 4), (R_14, F_14, 80)]
abbrev xb_iS : Nat := 13
def xb_sN : Nat := 6
def xb_sL : List Nat := [40, 4, 4, 5, 4, 3]
def xb_sB : List (List Int32) := [[102, 110, 32, 108, 101, 116, 32, 105, 110, 32, 105, 102, 32, 116, 104, 101, 110, 32, 101, 108, 115, 101, 32, 99, 97, 115, 101, 32, 111, 102, 32, 100, 97, 116, 97, 32, 105, 110, 116, 32], [98, 111, 111, 108], [84, 114, 117, 101], [70, 97, 108, 115, 101], [108, 105, 115, 116], [78, 105, 108]]
def xb_sR : List (String × Nat × String × Nat) := [("TypeFinder$Known", 30, "bool", 1), ("TypeFinder$Known", 55, "True", 2), ("TypeFinder$Known", 64, "False", 3), ("TypeFinder$Known", 66, "list", 4), ("TypeFinder$Known", 77, "Nil", 5), ("TypeFinder$Tokens", 22, "fn let in if then else case of data int ", 0)]
def xb_cs : List (String × String) := [("TypeFinder$Name", "java/lang/Object"), ("TypeFinder$DataType", "java/lang/Object")]
abbrev b_String_coder : ByteArray := prog_28_method_152_code
def y_String_coder : MethodName := ⟨"java/lang/String", "coder", "()B"⟩
abbrev b_String_isLatin1 : ByteArray := prog_28_method_154_code
def y_String_isLatin1 : MethodName := ⟨"java/lang/String", "isLatin1", "()Z"⟩
abbrev b_String_length : ByteArray := prog_28_method_54_code
def y_String_length : MethodName := ⟨"java/lang/String", "length", "()I"⟩
abbrev b_Preconditions_checkIndex : ByteArray := prog_46_method_11_code
def y_Preconditions_checkIndex : MethodName := ⟨"jdk/internal/util/Preconditions", "checkIndex", "(IILjava/util/function/BiFunction;)I"⟩
abbrev b_String_checkIndex : ByteArray := prog_28_method_155_code
def y_String_checkIndex : MethodName := ⟨"java/lang/String", "checkIndex", "(II)V"⟩
abbrev b_StringLatin1_charAt : ByteArray := prog_31_method_2_code
def y_StringLatin1_charAt : MethodName := ⟨"java/lang/StringLatin1", "charAt", "([BI)C"⟩
abbrev b_String_charAt : ByteArray := prog_28_method_56_code
def y_String_charAt : MethodName := ⟨"java/lang/String", "charAt", "(I)C"⟩
abbrev b_AbstractCollection_init : ByteArray := prog_36_method_1_code
def y_AbstractCollection_init : MethodName := ⟨"java/util/AbstractCollection", "<init>", "()V"⟩
abbrev b_AbstractList_init : ByteArray := prog_37_method_1_code
def y_AbstractList_init : MethodName := ⟨"java/util/AbstractList", "<init>", "()V"⟩
abbrev b_ArrayList_init : ByteArray := prog_38_method_2_code
def y_ArrayList_init : MethodName := ⟨"java/util/ArrayList", "<init>", "()V"⟩
abbrev b_ArrayList_grow : ByteArray := prog_38_method_6_code
def y_ArrayList_grow : MethodName := ⟨"java/util/ArrayList", "grow", "(I)[Ljava/lang/Object;"⟩
abbrev b_ArrayList_grow2 : ByteArray := prog_38_method_7_code
def y_ArrayList_grow2 : MethodName := ⟨"java/util/ArrayList", "grow", "()[Ljava/lang/Object;"⟩
abbrev b_ArrayList_add : ByteArray := prog_38_method_24_code
def y_ArrayList_add : MethodName := ⟨"java/util/ArrayList", "add", "(Ljava/lang/Object;[Ljava/lang/Object;I)V"⟩
abbrev b_ArrayList_add2 : ByteArray := prog_38_method_25_code
def y_ArrayList_add2 : MethodName := ⟨"java/util/ArrayList", "add", "(Ljava/lang/Object;)Z"⟩
abbrev b_AbstractStringBuilder_init : ByteArray := prog_16_method_2_code
def y_AbstractStringBuilder_init : MethodName := ⟨"java/lang/AbstractStringBuilder", "<init>", "(I)V"⟩
abbrev b_StringBuilder_init : ByteArray := prog_29_method_1_code
def y_StringBuilder_init : MethodName := ⟨"java/lang/StringBuilder", "<init>", "()V"⟩
abbrev b_TypeFinder_Type_init : ByteArray := prog_10_method_2_code
def y_TypeFinder_Type_init : MethodName := ⟨"TypeFinder$Type", "<init>", "(ILTypeFinder$DataType;LTypeFinder$Type;LTypeFinder$Type;)V"⟩
abbrev b_TypeFinder_Name_init : ByteArray := prog_6_method_1_code
def y_TypeFinder_Name_init : MethodName := ⟨"TypeFinder$Name", "<init>", "(JLTypeFinder$Type;Z)V"⟩
abbrev b_TypeFinder_Unifier_function : ByteArray := prog_11_method_2_code
def y_TypeFinder_Unifier_function : MethodName := ⟨"TypeFinder$Unifier", "function", "(LTypeFinder$Type;LTypeFinder$Type;)LTypeFinder$Type;"⟩
abbrev b_TypeFinder_DataType_init : ByteArray := prog_4_method_1_code
def y_TypeFinder_DataType_init : MethodName := ⟨"TypeFinder$DataType", "<init>", "(JI)V"⟩
abbrev b_TypeFinder_DataType_made : ByteArray := prog_4_method_2_code
def y_TypeFinder_DataType_made : MethodName := ⟨"TypeFinder$DataType", "made", "(JI)LTypeFinder$DataType;"⟩
abbrev b_TypeFinder_Unifier_init : ByteArray := prog_11_method_1_code
def y_TypeFinder_Unifier_init : MethodName := ⟨"TypeFinder$Unifier", "<init>", "()V"⟩
abbrev b_TypeFinder_Checker_init : ByteArray := prog_2_method_1_code
def y_TypeFinder_Checker_init : MethodName := ⟨"TypeFinder$Checker", "<init>", "(LTypeFinder$Known;)V"⟩
abbrev b_TypeFinder_Writer_init : ByteArray := prog_12_method_1_code
def y_TypeFinder_Writer_init : MethodName := ⟨"TypeFinder$Writer", "<init>", "()V"⟩
abbrev b_TypeFinder_DataParser_init : ByteArray := prog_3_method_1_code
def y_TypeFinder_DataParser_init : MethodName := ⟨"TypeFinder$DataParser", "<init>", "(LTypeFinder$Tokens;)V"⟩
abbrev b_TypeFinder_Tokens_packed : ByteArray := prog_9_method_2_code
def y_TypeFinder_Tokens_packed : MethodName := ⟨"TypeFinder$Tokens", "packed", "(Ljava/lang/String;)J"⟩
abbrev b_ArrayList_size : ByteArray := prog_38_method_8_code
def y_ArrayList_size : MethodName := ⟨"java/util/ArrayList", "size", "()I"⟩
abbrev b_TypeFinder_Known_init : ByteArray := prog_5_method_1_code
def y_TypeFinder_Known_init : MethodName := ⟨"TypeFinder$Known", "<init>", "()V"⟩
abbrev b_TypeFinder_Tokens_init : ByteArray := prog_9_method_1_code
def y_TypeFinder_Tokens_init : MethodName := ⟨"TypeFinder$Tokens", "<init>", "()V"⟩
abbrev b_TypeFinder_Parser_init : ByteArray := prog_8_method_1_code
def y_TypeFinder_Parser_init : MethodName := ⟨"TypeFinder$Parser", "<init>", "()V"⟩
abbrev b_TypeFinder_init : ByteArray := prog_1_method_1_code
def y_TypeFinder_init : MethodName := ⟨"TypeFinder", "<init>", "()V"⟩
abbrev b_TypeFinderModel_wordOf : ByteArray := prog_14_method_3_code
def y_TypeFinderModel_wordOf : MethodName := ⟨"TypeFinderModel", "wordOf", "(J)I"⟩
abbrev b_TypeFinderModel_setName : ByteArray := prog_14_method_2_code
def y_TypeFinderModel_setName : MethodName := ⟨"TypeFinderModel", "setName", "(IIIIII)V"⟩
abbrev b_TypeFinderModel_init : ByteArray := prog_14_method_1_code
def y_TypeFinderModel_init : MethodName := ⟨"TypeFinderModel", "<init>", "()V"⟩
abbrev b_TypeFinder_takeDraft : ByteArray := prog_1_method_11_code
def y_TypeFinder_takeDraft : MethodName := ⟨"TypeFinder", "takeDraft", "()I"⟩
abbrev b_TypeFinder_Tokens_put : ByteArray := prog_9_method_11_code
def y_TypeFinder_Tokens_put : MethodName := ⟨"TypeFinder$Tokens", "put", "(IJ)V"⟩
abbrev b_TypeFinder_Tokens_read : ByteArray := prog_9_method_3_code
def y_TypeFinder_Tokens_read : MethodName := ⟨"TypeFinder$Tokens", "read", "([CI)V"⟩
abbrev b_TypeFinder_Tokens_accept : ByteArray := prog_9_method_16_code
def y_TypeFinder_Tokens_accept : MethodName := ⟨"TypeFinder$Tokens", "accept", "(I)Z"⟩
abbrev b_TypeFinder_Tokens_is : ByteArray := prog_9_method_13_code
def y_TypeFinder_Tokens_is : MethodName := ⟨"TypeFinder$Tokens", "is", "(I)Z"⟩
abbrev b_TypeFinder_Tokens_kindBehind : ByteArray := prog_9_method_14_code
def y_TypeFinder_Tokens_kindBehind : MethodName := ⟨"TypeFinder$Tokens", "kindBehind", "()I"⟩
abbrev b_TypeFinder_Tokens_take : ByteArray := prog_9_method_17_code
def y_TypeFinder_Tokens_take : MethodName := ⟨"TypeFinder$Tokens", "take", "(I)J"⟩
abbrev b_TypeFinder_Parser_definition : ByteArray := prog_8_method_6_code
def y_TypeFinder_Parser_definition : MethodName := ⟨"TypeFinder$Parser", "definition", "(I)LTypeFinder$Node;"⟩
abbrev b_TypeFinder_Parser_declaration : ByteArray := prog_8_method_3_code
def y_TypeFinder_Parser_declaration : MethodName := ⟨"TypeFinder$Parser", "declaration", "([CI)LTypeFinder$Node;"⟩
abbrev b_TypeFinder_Parser_atom : ByteArray := prog_8_method_22_code
def y_TypeFinder_Parser_atom : MethodName := ⟨"TypeFinder$Parser", "atom", "(I)LTypeFinder$Node;"⟩
abbrev b_TypeFinder_Parser_application : ByteArray := prog_8_method_20_code
def y_TypeFinder_Parser_application : MethodName := ⟨"TypeFinder$Parser", "application", "(I)LTypeFinder$Node;"⟩
abbrev b_TypeFinder_Parser_chain : ByteArray := prog_8_method_15_code
def y_TypeFinder_Parser_chain : MethodName := ⟨"TypeFinder$Parser", "chain", "(I)LTypeFinder$Node;"⟩
abbrev b_TypeFinder_Parser_expression : ByteArray := prog_8_method_7_code
def y_TypeFinder_Parser_expression : MethodName := ⟨"TypeFinder$Parser", "expression", "(I)LTypeFinder$Node;"⟩
abbrev b_TypeFinder_Parser_question : ByteArray := prog_8_method_4_code
def y_TypeFinder_Parser_question : MethodName := ⟨"TypeFinder$Parser", "question", "([CI)LTypeFinder$Node;"⟩
abbrev b_TypeFinder_declare : ByteArray := prog_1_method_3_code
def y_TypeFinder_declare : MethodName := ⟨"TypeFinder", "declare", "()I"⟩
abbrev b_TypeFinder_ask : ByteArray := prog_1_method_4_code
def y_TypeFinder_ask : MethodName := ⟨"TypeFinder", "ask", "()I"⟩
abbrev b_Preconditions_checkFromToIndex : ByteArray := prog_46_method_12_code
def y_Preconditions_checkFromToIndex : MethodName := ⟨"jdk/internal/util/Preconditions", "checkFromToIndex", "(IIILjava/util/function/BiFunction;)I"⟩
abbrev b_String_checkBoundsBeginEnd : ByteArray := prog_28_method_158_code
def y_String_checkBoundsBeginEnd : MethodName := ⟨"java/lang/String", "checkBoundsBeginEnd", "(III)V"⟩
abbrev b_Arrays_checkLength : ByteArray := prog_39_method_131_code
def y_Arrays_checkLength : MethodName := ⟨"java/util/Arrays", "checkLength", "(II)V"⟩
abbrev b_Arrays_copyOfRangeByte : ByteArray := prog_39_method_133_code
def y_Arrays_copyOfRangeByte : MethodName := ⟨"java/util/Arrays", "copyOfRangeByte", "([BII)[B"⟩
abbrev b_Arrays_copyOfRange : ByteArray := prog_39_method_132_code
def y_Arrays_copyOfRange : MethodName := ⟨"java/util/Arrays", "copyOfRange", "([BII)[B"⟩
abbrev b_String_init : ByteArray := prog_28_method_151_code
def y_String_init : MethodName := ⟨"java/lang/String", "<init>", "([BB)V"⟩
abbrev b_StringLatin1_newString : ByteArray := prog_31_method_47_code
def y_StringLatin1_newString : MethodName := ⟨"java/lang/StringLatin1", "newString", "([BII)Ljava/lang/String;"⟩
abbrev b_String_substring : ByteArray := prog_28_method_92_code
def y_String_substring : MethodName := ⟨"java/lang/String", "substring", "(II)Ljava/lang/String;"⟩
abbrev b_TypeFinderModel_declare : ByteArray := prog_14_method_82_code
def y_TypeFinderModel_declare : MethodName := ⟨"TypeFinderModel", "declare", "()I"⟩
abbrev b_TypeFinderModel_begin : ByteArray := prog_14_method_79_code
def y_TypeFinderModel_begin : MethodName := ⟨"TypeFinderModel", "begin", "()Z"⟩
abbrev b_TypeFinderModel_split : ByteArray := prog_14_method_15_code
def y_TypeFinderModel_split : MethodName := ⟨"TypeFinderModel", "split", "()V"⟩
abbrev b_TypeFinderModel_put : ByteArray := prog_14_method_10_code
def y_TypeFinderModel_put : MethodName := ⟨"TypeFinderModel", "put", "(II)V"⟩
abbrev b_TypeFinderModel_peek : ByteArray := prog_14_method_17_code
def y_TypeFinderModel_peek : MethodName := ⟨"TypeFinderModel", "peek", "()I"⟩
abbrev b_TypeFinderModel_heading : ByteArray := prog_14_method_81_code
def y_TypeFinderModel_heading : MethodName := ⟨"TypeFinderModel", "heading", "()I"⟩
abbrev b_TypeFinderModel_expect : ByteArray := prog_14_method_18_code
def y_TypeFinderModel_expect : MethodName := ⟨"TypeFinderModel", "expect", "(I)V"⟩
abbrev b_TypeFinderModel_refuse : ByteArray := prog_14_method_78_code
def y_TypeFinderModel_refuse : MethodName := ⟨"TypeFinderModel", "refuse", "(I)I"⟩
abbrev b_TypeFinderModel_ask : ByteArray := prog_14_method_80_code
def y_TypeFinderModel_ask : MethodName := ⟨"TypeFinderModel", "ask", "()I"⟩
abbrev b_TypeFinderModel_expression : ByteArray := prog_14_method_24_code
def y_TypeFinderModel_expression : MethodName := ⟨"TypeFinderModel", "expression", "()V"⟩
abbrev b_TypeFinderModel_beginExpression : ByteArray := prog_14_method_25_code
def y_TypeFinderModel_beginExpression : MethodName := ⟨"TypeFinderModel", "beginExpression", "()V"⟩
abbrev b_TypeFinderModel_enter : ByteArray := prog_14_method_21_code
def y_TypeFinderModel_enter : MethodName := ⟨"TypeFinderModel", "enter", "(III)V"⟩
abbrev b_TypeFinderModel_within : ByteArray := prog_14_method_22_code
def y_TypeFinderModel_within : MethodName := ⟨"TypeFinderModel", "within", "(I)V"⟩
abbrev b_TypeFinderModel_chain : ByteArray := prog_14_method_28_code
def y_TypeFinderModel_chain : MethodName := ⟨"TypeFinderModel", "chain", "()V"⟩
abbrev b_TypeFinderModel_atom : ByteArray := prog_14_method_27_code
def y_TypeFinderModel_atom : MethodName := ⟨"TypeFinderModel", "atom", "(I)Z"⟩
end
section
/-! The base: one list of words for all contracts (xb_g), one environment (xb_EV), one form of contract (xb_CT), calls and reads and writes in this form. -/
def xb_g : List Cond := lw_tbl.filter goodWord
theorem xb_gin : GoodIn xb_g xb_g := fun _ h => ⟨h, good_of_word (List.mem_filter.mp h).2⟩
theorem xb_gof {args : Array Value} {s : State} (h : ∀ w ∈ lw_tbl, w.before args s = true) : ∀ w ∈ xb_g, w.before args s = true := fun w hw => h w (List.mem_filter.mp hw).1
theorem xb_gcode {y : MethodName} {b : ByteArray} {n : Nat} {r : Option FieldType} (h : Cond.code y b n r ∈ xb_g) : GoodIn xb_g (Cond.code y b n r :: xb_g) := fun w hw => by
  rcases List.mem_cons.mp hw with rfl | hw
  · exact xb_gin _ h
  · exact xb_gin _ hw
theorem xb_m (i : Nat) {w : Cond} (h : tables_1[i]? = some w) (hg : goodWord w = true) : w ∈ xb_g := List.mem_filter.mpr ⟨List.mem_append_right _ (List.mem_of_getElem? h), hg⟩
theorem xb_ms {q : MethodName × Nat} (h : q ∈ lw_privs) (hg : goodWord (Cond.selects q.1.cls q.1 q.1) = true) : Cond.selects q.1.cls q.1 q.1 ∈ xb_g := List.mem_filter.mpr ⟨List.mem_append_left _ (List.mem_map.mpr ⟨q, h, rfl⟩), hg⟩
/-- the environment: the tables' numbers; the numbers of the array classes; the empty row of ArrayList; the literals (texts, rows of bytes) -/
abbrev xb_EV : Type := va_G × (Nat → ClassId) × Nat × (Nat → Nat) × (Nat → Nat)
abbrev xb_ty (ca : Nat → ClassId) : List (ClassId × FieldType) := [(ca 0, .int), (ca 1, .long), (ca 2, .boolean), (ca 3, .char), (ca 4, .byte), (ca 5, .object "java/lang/Object")]
abbrev xb_K (G : xb_EV) (U : State) : Prop := va_K G.1 xb_cl (xb_ty G.2.1) U
abbrev xb_P (G : xb_EV) (ws : va_W) (H : Heap) : Prop := va_P G.1 xb_cl ws H
/-- a text at a, its bytes at d: n of them -/
def xb_SB (q : Nat × Nat × Nat × (Nat → Int32)) (A : Nat → Prop) (U : State) (H : Heap) : Prop := va_O "java/lang/String" q.1 A U H ∧ va_OF "java/lang/String" "coder" "B" (.int 0) q.1 A U H ∧ va_OF "java/lang/String" "value" "[B" (.ref q.2.1) q.1 A U H ∧ va_T .byte q.2.1 q.2.2.1 (fun j => .int (q.2.2.2 j)) A U H
def xb_SS (ss : List (Nat × Nat × Nat × (Nat → Int32))) (A : Nat → Prop) (U : State) (H : Heap) : Prop := ∀ q ∈ ss, xb_SB q A U H
/-- what is never written: the two statics, the literals -/
def xb_E (G : xb_EV) (A : Nat → Prop) (U : State) (H : Heap) : Prop := va_Z "java/util/ArrayList" "DEFAULTCAPACITY_EMPTY_ELEMENTDATA" "[Ljava/lang/Object;" (.ref G.2.2.1) A U H ∧ va_T (.object "java/lang/Object") G.2.2.1 0 (fun _ => .null) A U H ∧ va_Z "java/lang/String" "COMPACT_STRINGS" "Z" (.int 1) A U H ∧ vk_S xb_sN xb_sL xb_sB G.2.2.2.1 G.2.2.2.2 A U H ∧ (∀ q ∈ xb_sR, vk_R q.1 q.2.1 q.2.2.1 (G.2.2.2.1 q.2.2.2) U) ∧ (∃ z : Nat, va_Z "jdk/internal/util/Preconditions" "SIOOBE_FORMATTER" "Ljava/util/function/BiFunction;" (.ref z) A U H) ∧ ∀ q ∈ xb_cs, va_Nw (.castable q.1 q.2) U
theorem xb_E.go {G : xb_EV} {A B : Nat → Prop} {s U : State} {H : Heap} {locs : List Loc} (h : xb_E G A s s.heap) (hS : va_S A s.heap H locs) (hAB : ∀ q, B q → A q) (hU : U.heap = H) (hW : s.WarmedH U.vm) : xb_E G B U U.heap := by
  obtain ⟨h1, h2, h3, h4, h5, ⟨z, h6⟩, h7⟩ := h
  rw [hU]
  exact ⟨((h1.kept (fun a x y => hS.2.1 a x y)).narrow hAB).moved hW.alike, ((h2.kept (fun a x y => hS.2.1 a x y)).narrow hAB).moved hW.alike, ((h3.kept (fun a x y => hS.2.1 a x y)).narrow hAB).moved hW.alike, ((h4.kept (fun a x y => hS.2.1 a x y)).narrow hAB).moved hW.alike, fun q hq => (h5 q hq).warm hW, ⟨z, ((h6.kept (fun a x y => hS.2.1 a x y)).narrow hAB).moved hW.alike⟩, fun q hq => va_Nw.warmC hW (h7 q hq)⟩
theorem xb_SB.go {q : Nat × Nat × Nat × (Nat → Int32)} {A B : Nat → Prop} {s U : State} {H : Heap} {locs : List Loc} (h : xb_SB q A s s.heap) (hS : va_S A s.heap H locs) (hAB : ∀ q, B q → A q) (hU : U.heap = H) (hW : s.WarmedH U.vm) : xb_SB q B U U.heap := by
  obtain ⟨h1, h2, h3, h4⟩ := h
  rw [hU]
  exact ⟨((h1.kept (fun a x y => hS.2.1 a x y)).narrow hAB).moved hW.alike, ((h2.kept (fun a x y => hS.2.1 a x y)).narrow hAB).moved hW.alike, ((h3.kept (fun a x y => hS.2.1 a x y)).narrow hAB).moved hW.alike, ((h4.kept (fun a x y => hS.2.1 a x y)).narrow hAB).moved hW.alike⟩
theorem xb_SS.go {ss ss' : List (Nat × Nat × Nat × (Nat → Int32))} {A B : Nat → Prop} {s U : State} {H : Heap} {locs : List Loc} (h : xb_SS ss A s s.heap) (hin : ∀ q ∈ ss', q ∈ ss) (hS : va_S A s.heap H locs) (hAB : ∀ q, B q → A q) (hU : U.heap = H) (hW : s.WarmedH U.vm) : xb_SS ss' B U U.heap := fun q hq => (h q (hin q hq)).go hS hAB hU hW
/-- what a contract asks at its start -/
def xb_pre (G : xb_EV) (ss : List (Nat × Nat × Nat × (Nat → Int32))) (wc : va_W) (sz : Nat) (U : State) : Prop := U.heap.size = sz ∧ xb_P G wc U.heap ∧ xb_K G U ∧ va_D (fun _ => True) wc ∧ xb_E G (va_A wc sz) U U.heap ∧ xb_SS ss (va_A wc sz) U U.heap
theorem xb_blind {G : xb_EV} {ss : List (Nat × Nat × Nat × (Nat → Int32))} {wc : va_W} {sz : Nat} {av : List Value} : FrameBlind (va_Pc av (xb_pre G ss wc sz)) := by
  intro a U g mk h
  obtain ⟨h0, h1, h2, h3, h4, h5, h6⟩ := h
  exact ⟨h0, h1, h2, va_K.moved (u := U) (U := U.calling g mk a) (Vm.Alike.refl U.vm) h3, h4, ⟨h5.1.moved (U := U.calling g mk a) (Vm.Alike.refl U.vm), h5.2.1.moved (U := U.calling g mk a) (Vm.Alike.refl U.vm), h5.2.2.1.moved (U := U.calling g mk a) (Vm.Alike.refl U.vm), h5.2.2.2.1.moved (U := U.calling g mk a) (Vm.Alike.refl U.vm), fun q hq => (h5.2.2.2.2.1 q hq).same (u := U) rfl, h5.2.2.2.2.2.1.imp (fun _ hz => hz.moved (U := U.calling g mk a) (Vm.Alike.refl U.vm)), fun q hq => va_Nw.same rfl (u := U) rfl (h5.2.2.2.2.2.2 q hq)⟩,
    fun q hq => ⟨(h6 q hq).1.moved (U := U.calling g mk a) (Vm.Alike.refl U.vm), (h6 q hq).2.1.moved (U := U.calling g mk a) (Vm.Alike.refl U.vm), (h6 q hq).2.2.1.moved (U := U.calling g mk a) (Vm.Alike.refl U.vm), (h6 q hq).2.2.2.moved (U := U.calling g mk a) (Vm.Alike.refl U.vm)⟩⟩
/-- a contract's end: some u with 'post u'; the answer is 'val u', the cells wc have become w1 u -/
def xb_Q (G : xb_EV) (wc : va_W) (sz : Nat) {S : Type} (val : S → Option Value) (post : S → Prop) (w1 : S → va_W) : Array Value → State → Outcome → State → Prop := fun _ st oc t => (∃ u : S, oc = .returned (val u) ∧ post u ∧ xb_P G (w1 u) t.heap ∧ va_D (va_A wc sz) (w1 u)) ∧ va_F (va_A wc sz) st t
def xb_CT (l : Launch) (y : MethodName) (bytes : ByteArray) (maxL : Nat) (ret : Option FieldType) (rm : Room) (G : xb_EV) (ss : List (Nat × Nat × Nat × (Nat → Int32))) (av : List Value) (wc : va_W) {S : Type} (val : S → Option Value) (post : S → Prop) (w1 : S → va_W) : Prop :=
  ∀ sz : Nat, Met l y (Cond.code y bytes maxL ret :: xb_g) rm (va_Pc av (xb_pre G ss wc sz)) (xb_Q G wc sz val post w1) rm.cells rm.slots (va_A wc sz)
/-- what stands fast in a method's walk -/
def xb_F (p : Program) (s : State) (m : MethodId) (args : Array Value) (c : Code) (cc : ByteArray) (nL : Nat) (own : String) (G : xb_EV) (ss : List (Nat × Nat × Nat × (Nat → Int32))) (A : Nat → Prop) : Prop :=
  (p.tables.exec = Jvm.exec ∧ c.code = cc ∧ c.maxLocals = nL ∧ s.vm.findClass own = some m.cls ∧ ∀ w ∈ xb_g, w.before args s = true) ∧ xb_K G s ∧ (∀ q : Nat, s.heap.size ≤ q → A q) ∧ xb_E G A s s.heap ∧ xb_SS ss A s s.heap
/-- a point of the walk: the cells, apart and in A; outside A nothing has changed -/
def xb_W (G : xb_EV) (A : Nat → Prop) (s : State) (ws : va_W) (H : Heap) (locs : List Loc) : Prop := xb_P G ws H ∧ va_D A ws ∧ va_S A s.heap H locs
section XBW
variable {p : Program} {l : Launch} {e : Env} {R : Room} {s : State} {m : MethodId} {args : Array Value} {below : List Frame} {meth : Method} {c : Code} {H : Heap} {locs : List Loc} {cells slots : Nat} {Q : State → Prop}
variable {cc : ByteArray} {nL pc : Nat} {own : String} {G : xb_EV} {ss : List (Nat × Nat × Nat × (Nat → Int32))} {A : Nat → Prop} {ls : Array Slot} {rest st0 : List Value} {ws wc wr : va_W}
/-- a walk of a method's body gives its contract -/
theorem xb_CT.of {y : MethodName} {bytes : ByteArray} {maxL : Nat} {ret : Option FieldType} {rm : Room} {av : List Value} {S : Type} {val : S → Option Value} {post : S → Prop} {w1 : S → va_W} (hy : plainFor y = true) (own : String) (hown : y.cls = own)
    (body : ∀ (p : Program) (e : Env) (s : State) (m : MethodId) (args : Array Value) (below : List Frame) (meth : Method) (c : Code) (A : Nat → Prop) (ls : Array Slot) (Q : State → Prop), xb_F p s m args c bytes maxL own G ss A → meth.sig.returnType = ret → meth.locks = false → meth.name = y.name → xb_W G A s wc s.heap [] → lv_has ls maxL (lv_args 0 av) → (∀ q, A q ↔ va_A wc s.heap.size q) →
      Q = MQ below (xb_Q G wc s.heap.size val post w1) args s rm.cells rm.slots (va_A wc s.heap.size) → W p l e rm s m args below meth c s.heap [] 0 0 Q (F0 m 0 ls [])) (hlen : (lg_sl av).length ≤ maxL) :
    xb_CT l y bytes maxL ret rm G ss av wc val post w1 := by
  intro sz
  refine va_MetF (cc := bytes) (maxL := maxL) (ret := ret) hy rfl ?_
  intro p e s m args below meth c s₁ B hml hv
  obtain ⟨rfl, hsz, hP, hK, hD0, hE, hSS⟩ := hv
  subst hsz
  have hts := atoms_spec (ws := Cond.code y bytes maxL ret :: xb_g) B.pre
  have hl := lv_entry av (n := maxL) hlen
  rw [lg_entry_eq]
  exact body p e s m av.toArray below meth c (va_A wc s.heap.size) _ _ ⟨⟨B.exec, B.bytes, hml, by rw [← hown]; exact findClass_of_methodNamed B.named, fun w hw => hts w (List.mem_cons_of_mem _ hw)⟩, hK, fun q h => Or.inr h, hE, hSS⟩ B.returns B.notSynchronized (name_of_methodNamed B.named B.method).1 ⟨hP, hD0.self (sz := s.heap.size), va_S.rf⟩ hl (fun _ => Iff.rfl) rfl
/-- the walk goes on behind a call -/
theorem xb_go {rm : Room} {av : List Value} {S : Type} {val : S → Option Value} {post : S → Prop} {w1 : S → va_W} (F : xb_F p s m args c cc nL own G ss A) (h : xb_W G A s ws H locs)
    (isC isR : List Nat) (hC : isC.map (fun i => ws[i]?) = wc.map some) (hR : isR.map (fun i => ws[i]?) = wr.map some) (hn : va_nd isR = true) (hdis : ∀ i ∈ isR, i ∉ isC)
    (hr : va_Run p l e R s m args below meth c H locs cells slots rm.cells rm.slots (F0 m pc ls st0) rest (xb_Q G wc H.size val post w1 av.toArray) (va_A wc H.size))
    (kk : ∀ (u : S) (H1 : Heap) (locs1 : List Loc), post u → xb_W G A s (wr ++ w1 u) H1 locs1 → W p l e R s m args below meth c H1 locs1 (cells + rm.cells) (slots + rm.slots) Q (F0 m (pc + 3) ls ((val u).toList ++ rest))) :
    W p l e R s m args below meth c H locs cells slots Q (F0 m pc ls st0) := by
  obtain ⟨hP, hD, hS⟩ := h
  have hF := va_free (wc := wc) hD hS F.2.2.1 isC hC
  intro T hT X
  obtain ⟨v, st₀, t, T', L, h0, X', hL, e1, e2, ⟨⟨u, hv, hp, hP1, hD1⟩, hz, hk⟩, st⟩ := hr T hT X
  cases hv
  rw [h0] at hz hk
  obtain ⟨hP2, hD2⟩ := va_join hP hD isC isR hC hR hn hdis hk hF hP1 hD1
  obtain ⟨t2, a1, b1⟩ := kk u T'.heap (locs ++ L) hp ⟨by rw [e1]; exact hP2, hD2,
    Nat.le_trans hS.1 (by rw [e1]; exact hz), fun q h1 h2 => by rw [e1, hk q (Nat.lt_of_lt_of_le h1 hS.1) (fun z => h2 (hF q z))]; exact hS.2.1 q h1 h2, fun q hq => by
      rcases List.mem_append.mp hq with h | h
      · exact hS.2.2 q h
      · exact hF _ (hL q h)⟩ T' rfl X'
  exact ⟨t2, st t2 a1, b1⟩
/-- the callee's start out of the caller's point -/
theorem xb_pre.at {ss' : List (Nat × Nat × Nat × (Nat → Int32))} (F : xb_F p s m args c cc nL own G ss A) (h : xb_W G A s ws H locs) (isC : List Nat) (hC : isC.map (fun i => ws[i]?) = wc.map some) (hc : va_nd isC = true) (hss : ∀ U : State, U.heap = H → s.WarmedH U.vm → xb_SS ss' (va_A wc H.size) U U.heap)
    {U : State} (hU : U.heap = H) (hW : s.WarmedH U.vm) : xb_pre G ss' wc H.size U := by
  obtain ⟨hP, hD, hS⟩ := h
  have hF := va_free (wc := wc) hD hS F.2.2.1 isC hC
  refine ⟨by rw [hU], ?_, va_K.moved hW.alike F.2.1, (hD.sub isC hc hC).weaken (fun _ _ _ _ => trivial), F.2.2.2.1.go hS hF hU hW, hss U hU hW⟩
  rw [hU]
  intro k q hk
  obtain ⟨i, hi⟩ : ∃ i : Nat, ws[i]? = some q := by
    have h1 : (wc.map some)[k]? = some (some q) := by rw [List.getElem?_map, hk]; rfl
    rw [← hC, List.getElem?_map] at h1
    cases h2 : isC[k]? with
    | none => rw [h2] at h1; cases h1
    | some i => rw [h2] at h1; exact ⟨i, Option.some.inj h1⟩
  exact hP i q hi
/-- words of a call: what must stand in the list -/
theorem xb_cI {y : MethodName} {bytes : ByteArray} {maxL index : Nat} {rm : Room} (n : Nat) (hts : ∀ w ∈ xb_g, w.before args s = true) (k1 : Cond.code y bytes maxL none ∈ xb_g) (k2 : Cond.initialized y.cls ∈ xb_g) (k3 : Cond.methodLink own index y ∈ xb_g) (k4 : Cond.instanceMethod y ∈ xb_g) (hy1 : y.name = "<init>")
    (hd : y.cls ≠ "java/lang/invoke/MethodHandle" ∧ y.cls ≠ "java/lang/invoke/VarHandle" ∧ (parseMethodDescriptor y.desc).map (fun d => d.parameters.length) = some n) (hR : rm.frames + 1 ≤ R.frames ∧ 8 + (maxL + 11) + rm.locals ≤ R.locals) :
    CallB R s args own index y bytes maxL none (Cond.code y bytes maxL none :: xb_g) rm rm.cells rm.slots n ∧ y.name = "<init>" ∧ (Cond.instanceMethod y).before args s = true :=
  ⟨callB_of n hts (xb_gcode k1) rfl rfl rfl (hts _ k2) (hts _ k3) hd hR, hy1, hts _ k4⟩
theorem xb_cV {y : MethodName} {bytes : ByteArray} {maxL index : Nat} {ret : Option FieldType} {rm : Room} {C : String} (n : Nat) (hts : ∀ w ∈ xb_g, w.before args s = true) (k1 : Cond.code y bytes maxL ret ∈ xb_g) (k2 : Cond.initialized y.cls ∈ xb_g) (k3 : Cond.methodLink own index y ∈ xb_g) (k4 : Cond.instanceMethod y ∈ xb_g) (k5 : Cond.selects C y y ∈ xb_g)
    (hd : y.cls ≠ "java/lang/invoke/MethodHandle" ∧ y.cls ≠ "java/lang/invoke/VarHandle" ∧ (parseMethodDescriptor y.desc).map (fun d => d.parameters.length) = some n) (hR : rm.frames + 1 ≤ R.frames ∧ 8 + (maxL + 11) + rm.locals ≤ R.locals) :
    CallW R s args own C index y bytes maxL ret (Cond.code y bytes maxL ret :: xb_g) rm rm.cells rm.slots n :=
  ⟨callB_of n hts (xb_gcode k1) rfl rfl rfl (hts _ k2) (hts _ k3) hd hR, hts _ k4, hts _ k5⟩
theorem xb_cS {y : MethodName} {bytes : ByteArray} {maxL index : Nat} {ret : Option FieldType} {rm : Room} (n : Nat) (hts : ∀ w ∈ xb_g, w.before args s = true) (k1 : Cond.code y bytes maxL ret ∈ xb_g) (k2 : Cond.initialized y.cls ∈ xb_g) (k3 : Cond.methodLink own index y ∈ xb_g) (k4 : Cond.static y ∈ xb_g)
    (hd : y.cls ≠ "java/lang/invoke/MethodHandle" ∧ y.cls ≠ "java/lang/invoke/VarHandle" ∧ (parseMethodDescriptor y.desc).map (fun d => d.parameters.length) = some n) (hR : rm.frames + 1 ≤ R.frames ∧ 8 + (maxL + 11) + rm.locals ≤ R.locals) :
    CallB R s args own index y bytes maxL ret (Cond.code y bytes maxL ret :: xb_g) rm rm.cells rm.slots n ∧ (Cond.static y).before args s = true :=
  ⟨callB_of n hts (xb_gcode k1) rfl rfl rfl (hts _ k2) (hts _ k3) hd hR, hts _ k4⟩
/-- invokespecial of a constructor -/
theorem xb_callI {y : MethodName} {bytes : ByteArray} {maxL index : Nat} {rm : Room} {ss' : List (Nat × Nat × Nat × (Nat → Int32))} {b : Nat} {As : List Value} {S : Type} {val : S → Option Value} {post : S → Prop} {w1 : S → va_W} (F : xb_F p s m args c cc nL own G ss A) (h : xb_W G A s ws H locs)
    (hM : xb_CT l y bytes maxL none rm G ss' (.ref b :: As) wc val post w1) (n : Nat) (k1 : Cond.code y bytes maxL none ∈ xb_g) (k2 : Cond.initialized y.cls ∈ xb_g) (k3 : Cond.methodLink own index y ∈ xb_g) (k4 : Cond.instanceMethod y ∈ xb_g) (hy1 : y.name = "<init>")
    (hd : y.cls ≠ "java/lang/invoke/MethodHandle" ∧ y.cls ≠ "java/lang/invoke/VarHandle" ∧ (parseMethodDescriptor y.desc).map (fun d => d.parameters.length) = some n) (hRm : rm.frames + 1 ≤ R.frames ∧ 8 + (maxL + 11) + rm.locals ≤ R.locals)
    (isC isR : List Nat) (hC : isC.map (fun i => ws[i]?) = wc.map some) (hR : isR.map (fun i => ws[i]?) = wr.map some) (hc : va_nd isC = true) (hn : va_nd isR = true) (hdis : ∀ i ∈ isR, i ∉ isC)
    (hss : ∀ U : State, U.heap = H → s.WarmedH U.vm → xb_SS ss' (va_A wc H.size) U U.heap)
    (hl : ls.size = nL) (hAs : As.length = n) (hst : st0 = As.reverse ++ .ref b :: rest) (hro : (rest.map fun v => v.category).sum ≤ 8) (hf : cells + rm.cells ≤ R.cells ∧ slots + rm.slots ≤ R.slots) (hdg : decode cc pc = .ok (.invokespecial index, 3))
    (kk : ∀ (u : S) (H1 : Heap) (locs1 : List Loc), post u → xb_W G A s (wr ++ w1 u) H1 locs1 → W p l e R s m args below meth c H1 locs1 (cells + rm.cells) (slots + rm.slots) Q (F0 m (pc + 3) ls ((val u).toList ++ rest))) :
    W p l e R s m args below meth c H locs cells slots Q (F0 m pc ls st0) :=
  xb_go (rm := rm) (av := .ref b :: As) F h isC isR hC hR hn hdis (va_runI F.1 (hM H.size) (xb_cI n F.1.2.2.2.2 k1 k2 k3 k4 hy1 hd hRm) ⟨xb_blind, fun _ hU hW => ⟨rfl, xb_pre.at F h isC hC hc hss hU hW⟩⟩ rfl hAs hl hst (lv_room hro) hdg hf) kk
/-- invokevirtual; hb: the receiver's cell -/
theorem xb_callV {y : MethodName} {bytes : ByteArray} {maxL index : Nat} {ret : Option FieldType} {rm : Room} {ss' : List (Nat × Nat × Nat × (Nat → Int32))} {C : String} {b : Nat} {As : List Value} {S : Type} {val : S → Option Value} {post : S → Prop} {w1 : S → va_W} (F : xb_F p s m args c cc nL own G ss A) (h : xb_W G A s ws H locs)
    (hM : xb_CT l y bytes maxL ret rm G ss' (.ref b :: As) wc val post w1) (n : Nat) (hb : ∃ cell : Cell, H[b]? = some cell ∧ cell.vm.isStatics = false ∧ s.vm.findClass C = some cell.cls) (k1 : Cond.code y bytes maxL ret ∈ xb_g) (k2 : Cond.initialized y.cls ∈ xb_g) (k3 : Cond.methodLink own index y ∈ xb_g) (k4 : Cond.instanceMethod y ∈ xb_g) (k5 : Cond.selects C y y ∈ xb_g)
    (hd : y.cls ≠ "java/lang/invoke/MethodHandle" ∧ y.cls ≠ "java/lang/invoke/VarHandle" ∧ (parseMethodDescriptor y.desc).map (fun d => d.parameters.length) = some n) (hRm : rm.frames + 1 ≤ R.frames ∧ 8 + (maxL + 11) + rm.locals ≤ R.locals)
    (isC isR : List Nat) (hC : isC.map (fun i => ws[i]?) = wc.map some) (hR : isR.map (fun i => ws[i]?) = wr.map some) (hc : va_nd isC = true) (hn : va_nd isR = true) (hdis : ∀ i ∈ isR, i ∉ isC)
    (hss : ∀ U : State, U.heap = H → s.WarmedH U.vm → xb_SS ss' (va_A wc H.size) U U.heap)
    (hl : ls.size = nL) (hAs : As.length = n) (hst : st0 = As.reverse ++ .ref b :: rest) (hro : (rest.map fun v => v.category).sum ≤ 8) (hf : cells + rm.cells ≤ R.cells ∧ slots + rm.slots ≤ R.slots) (hdg : decode cc pc = .ok (.invokevirtual index, 3))
    (kk : ∀ (u : S) (H1 : Heap) (locs1 : List Loc), post u → xb_W G A s (wr ++ w1 u) H1 locs1 → W p l e R s m args below meth c H1 locs1 (cells + rm.cells) (slots + rm.slots) Q (F0 m (pc + 3) ls ((val u).toList ++ rest))) :
    W p l e R s m args below meth c H locs cells slots Q (F0 m pc ls st0) :=
  xb_go (rm := rm) (av := .ref b :: As) F h isC isR hC hR hn hdis (va_runV F.1 (hM H.size) (xb_cV n F.1.2.2.2.2 k1 k2 k3 k4 k5 hd hRm) ⟨xb_blind, hb, fun _ hU hW => ⟨rfl, xb_pre.at F h isC hC hc hss hU hW⟩⟩ rfl hAs hl hst (lv_room hro) hdg hf) kk
/-- invokestatic -/
theorem xb_callS {y : MethodName} {bytes : ByteArray} {maxL index : Nat} {ret : Option FieldType} {rm : Room} {ss' : List (Nat × Nat × Nat × (Nat → Int32))} {As : List Value} {S : Type} {val : S → Option Value} {post : S → Prop} {w1 : S → va_W} (F : xb_F p s m args c cc nL own G ss A) (h : xb_W G A s ws H locs)
    (hM : xb_CT l y bytes maxL ret rm G ss' As wc val post w1) (n : Nat) (k1 : Cond.code y bytes maxL ret ∈ xb_g) (k2 : Cond.initialized y.cls ∈ xb_g) (k3 : Cond.methodLink own index y ∈ xb_g) (k4 : Cond.static y ∈ xb_g)
    (hd : y.cls ≠ "java/lang/invoke/MethodHandle" ∧ y.cls ≠ "java/lang/invoke/VarHandle" ∧ (parseMethodDescriptor y.desc).map (fun d => d.parameters.length) = some n) (hRm : rm.frames + 1 ≤ R.frames ∧ 8 + (maxL + 11) + rm.locals ≤ R.locals)
    (isC isR : List Nat) (hC : isC.map (fun i => ws[i]?) = wc.map some) (hR : isR.map (fun i => ws[i]?) = wr.map some) (hc : va_nd isC = true) (hn : va_nd isR = true) (hdis : ∀ i ∈ isR, i ∉ isC)
    (hss : ∀ U : State, U.heap = H → s.WarmedH U.vm → xb_SS ss' (va_A wc H.size) U U.heap)
    (hl : ls.size = nL) (hAs : As.length = n) (hst : st0 = As.reverse ++ rest) (hro : (rest.map fun v => v.category).sum ≤ 8) (hf : cells + rm.cells ≤ R.cells ∧ slots + rm.slots ≤ R.slots) (hdg : decode cc pc = .ok (.invokestatic index, 3))
    (kk : ∀ (u : S) (H1 : Heap) (locs1 : List Loc), post u → xb_W G A s (wr ++ w1 u) H1 locs1 → W p l e R s m args below meth c H1 locs1 (cells + rm.cells) (slots + rm.slots) Q (F0 m (pc + 3) ls ((val u).toList ++ rest))) :
    W p l e R s m args below meth c H locs cells slots Q (F0 m pc ls st0) :=
  xb_go (rm := rm) (av := As) F h isC isR hC hR hn hdis (va_runS F.1 (hM H.size) (xb_cS n F.1.2.2.2.2 k1 k2 k3 k4 hd hRm) ⟨xb_blind, fun _ hU hW => ⟨rfl, xb_pre.at F h isC hC hc hss hU hW⟩⟩ rfl hAs hl hst (lv_room hro) hdg hf) kk
/-- a class as the worlds know it -/
def xb_cf (ci : Nat) (C : String) (T : u_T) (N : Nat) (ty : Nat → FieldType) : Prop := xb_cl[ci]? = some (C, T, N) ∧ (∀ w ∈ u_ws C T N, w ∈ xb_g) ∧ (∀ k, k < N → parseFieldDescriptor (T k).2.2.1 = some (ty k)) ∧ ∀ a, a < N → ∀ b, b < N → a ≠ b → (T a).2.1 ≠ (T b).2.1
theorem xb_get {ci N index a : Nat} {C ow ref nm ds : String} {T : u_T} {ty : Nat → FieldType} {fin : Bool} {fs : List Value} {v : Value} (F : xb_F p s m args c cc nL own G ss A) (h : xb_W G A s ws H locs) (cf : xb_cf ci C T N ty) (q0 : Nat) (he : ws[q0]? = some (a, .inr (ci, fs))) (k : Nat) (hk : k < N) (hT : T k = (ow, nm, ds, fin)) (kl : Cond.fieldLink own index ref nm ds ∈ xb_g) (hsm : ref = ow ∨ Cond.sameField ref ow nm ds ∈ xb_g) (hv : fs[k]? = some v) (hdg : decode cc pc = .ok (.getfield index, 3))
    (kk : W p l e R s m args below meth c H locs cells slots Q (F0 m (pc + 3) ls (v :: rest))) : W p l e R s m args below meth c H locs cells slots Q (F0 m pc ls (.ref a :: rest)) :=
  va_get (ref := ref) F.1.1 F.1.2.1 F.1.2.2.2.2 cf.2.1 F.1.2.2.2.1 F.2.1 h.1 q0 he cf.1 k hk (by rw [hT]; exact F.1.2.2.2.2 _ kl) (fun x hx => by
    rw [hT] at hx ⊢
    rcases hsm with h9 | h9
    · rw [h9]; exact hx
    · exact u_same (F.1.2.2.2.2 _ h9) x hx) hv hdg kk
theorem xb_put {ci N index a : Nat} {C ow ref nm ds : String} {T : u_T} {ty : Nat → FieldType} {fs : List Value} {v : Value} {t0 : FieldType} {ws' : va_W} (F : xb_F p s m args c cc nL own G ss A) (h : xb_W G A s ws H locs) (cf : xb_cf ci C T N ty) (q0 : Nat) (he : ws[q0]? = some (a, .inr (ci, fs))) (k : Nat) (hk : k < N) (hT : T k = (ow, nm, ds, false)) (kl : Cond.fieldLink own index ref nm ds ∈ xb_g) (hsm : ref = ow ∨ Cond.sameField ref ow nm ds ∈ xb_g)
    (hd : parseFieldDescriptor ds = some t0) (hn : narrow t0 v = v) (hfit : fits t0 v = true) (hl : k < fs.length) (hw : ws.set q0 (a, .inr (ci, fs.set k v)) = ws') (hdg : decode cc pc = .ok (.putfield index, 3))
    (kk : ∀ (H1 : Heap) (locs1 : List Loc), xb_W G A s ws' H1 locs1 → W p l e R s m args below meth c H1 locs1 cells slots Q (F0 m (pc + 3) ls rest)) : W p l e R s m args below meth c H locs cells slots Q (F0 m pc ls (v :: .ref a :: rest)) := by
  subst hw
  exact va_put (ref := ref) F.1.1 F.1.2.1 F.1.2.2.2.2 cf.2.1 ty cf.2.2.1 cf.2.2.2 F.1.2.2.2.1 F.2.1 h.1 h.2.1 h.2.2 q0 he cf.1 k hk (by rw [hT]; exact F.1.2.2.2.2 _ kl) (fun x hx => by
    rw [hT] at hx ⊢
    rcases hsm with h9 | h9
    · rw [h9]; exact hx
    · exact u_same (F.1.2.2.2.2 _ h9) x hx) (by rw [hT]) (by rw [hT]; exact hd) hn hfit hl hdg (fun H1 locs1 a b c => kk H1 locs1 ⟨a, b, c⟩)
theorem xb_putF {ci N index a : Nat} {C nm ds : String} {T : u_T} {ty : Nat → FieldType} {fs : List Value} {v : Value} {t0 : FieldType} {ws' : va_W} (F : xb_F p s m args c cc nL own G ss A) (h : xb_W G A s ws H locs) (hin : meth.name = "<init>") (cf : xb_cf ci C T N ty) (q0 : Nat) (he : ws[q0]? = some (a, .inr (ci, fs))) (k : Nat) (hk : k < N) (hT : T k = (own, nm, ds, true)) (kl : Cond.fieldLink own index own nm ds ∈ xb_g)
    (hd : parseFieldDescriptor ds = some t0) (hn : narrow t0 v = v) (hfit : fits t0 v = true) (hl : k < fs.length) (hw : ws.set q0 (a, .inr (ci, fs.set k v)) = ws') (hdg : decode cc pc = .ok (.putfield index, 3))
    (kk : ∀ (H1 : Heap) (locs1 : List Loc), xb_W G A s ws' H1 locs1 → W p l e R s m args below meth c H1 locs1 cells slots Q (F0 m (pc + 3) ls rest)) : W p l e R s m args below meth c H locs cells slots Q (F0 m pc ls (v :: .ref a :: rest)) := by
  subst hw
  exact va_putF (ref := own) F.1.1 F.1.2.1 F.1.2.2.2.2 cf.2.1 ty cf.2.2.1 cf.2.2.2 F.1.2.2.2.1 F.2.1 h.1 h.2.1 h.2.2 q0 he cf.1 k hk (by rw [hT]; exact F.1.2.2.2.2 _ kl) (fun x hx => by rw [hT] at hx ⊢; exact hx) (by rw [hT]) hin (by rw [hT]) (by rw [hT]; exact hd) hn hfit hl hdg (fun H1 locs1 a b c => kk H1 locs1 ⟨a, b, c⟩)
theorem xb_new {ci N index : Nat} {C : String} {T : u_T} {ty : Nat → FieldType} {fs : List Value} {ws' : Nat → va_W} (F : xb_F p s m args c cc nL own G ss A) (h : xb_W G A s ws H locs) (cf : xb_cf ci C T N ty) (k1 : Cond.classLink own index C ∈ xb_g) (k2 : Cond.instantiable C N ∈ xb_g) (k3 : Cond.initialized C ∈ xb_g) (hfs : ∀ j, j < N → defaultValue (ty j) = vp_V fs j) (hw : ∀ q, ws ++ [(q, .inr (ci, fs))] = ws' q) (hc : cells + 1 ≤ R.cells) (hs : slots + N ≤ R.slots) (hdg : decode cc pc = .ok (.new index, 3))
    (kk : ∀ (q : Nat) (H1 : Heap), xb_W G A s (ws' q) H1 locs → W p l e R s m args below meth c H1 locs (cells + 1) (slots + N) Q (F0 m (pc + 3) ls (.ref q :: rest))) : W p l e R s m args below meth c H locs cells slots Q (F0 m pc ls rest) :=
  va_new F.1.1 F.1.2.1 F.1.2.2.2.2 cf.2.1 ty cf.2.2.1 F.1.2.2.2.1 (F.1.2.2.2.2 _ k1) (F.1.2.2.2.2 _ k2) (F.1.2.2.2.2 _ k3) F.2.1 h.1 h.2.1 h.2.2 F.2.2.1 cf.1 hfs hc hs hdg (fun q H1 a b c => kk q H1 (by rw [← hw q]; exact ⟨a, b, c⟩))
theorem xb_RA {U : State} {a b : ClassId} {ty : FieldType} (h1 : va_RA U a ty) (h2 : va_RA U b ty) : a = b := by
  cases ty with
  | object C =>
    obtain ⟨_, _, _, _, _, h1⟩ := h1
    obtain ⟨_, _, _, _, _, h2⟩ := h2
    exact Option.some.inj (h1.symm.trans h2)
  | array t => exact Option.some.inj ((show U.vm.findClass _ = some a from h1).symm.trans (show U.vm.findClass _ = some b from h2))
  | int => exact Option.some.inj ((show U.vm.findClass _ = some a from h1).symm.trans (show U.vm.findClass _ = some b from h2))
  | long => exact Option.some.inj ((show U.vm.findClass _ = some a from h1).symm.trans (show U.vm.findClass _ = some b from h2))
  | float => exact Option.some.inj ((show U.vm.findClass _ = some a from h1).symm.trans (show U.vm.findClass _ = some b from h2))
  | double => exact Option.some.inj ((show U.vm.findClass _ = some a from h1).symm.trans (show U.vm.findClass _ = some b from h2))
  | boolean => exact Option.some.inj ((show U.vm.findClass _ = some a from h1).symm.trans (show U.vm.findClass _ = some b from h2))
  | byte => exact Option.some.inj ((show U.vm.findClass _ = some a from h1).symm.trans (show U.vm.findClass _ = some b from h2))
  | char => exact Option.some.inj ((show U.vm.findClass _ = some a from h1).symm.trans (show U.vm.findClass _ = some b from h2))
  | short => exact Option.some.inj ((show U.vm.findClass _ = some a from h1).symm.trans (show U.vm.findClass _ = some b from h2))
theorem xb_newa {atype : ArrayType} {ty : FieldType} {n : Int32} {N' : Nat} {a0 : vp_A} {cA0 : ClassId} {ws' : Nat → va_W} (F : xb_F p s m args c cc nL own G ss A) (h : xb_W G A s ws H locs) (hty : newarray.typeOf atype = ty) (t0 : Nat) (ht : (xb_ty G.2.1)[t0]? = some (cA0, ty)) (k1 : Cond.arrayClass ty ∈ xb_g) (ha : ∀ cA : ClassId, vp_cell cA a0 = arrV cA N' (fun _ => defaultValue ty)) (hn : ¬ n < 0) (hN : n.toNatClampNeg = N') (hby : N' * componentBytes ty ≤ 536870912) (hw : ∀ q, ws ++ [(q, .inl (cA0, a0))] = ws' q) (hc : cells + 1 ≤ R.cells) (hs : slots + N' ≤ R.slots) (hdg : decode cc pc = .ok (.newarray atype, 2))
    (kk : ∀ (q : Nat) (H1 : Heap), xb_W G A s (ws' q) H1 locs → W p l e R s m args below meth c H1 locs (cells + 1) (slots + N') Q (F0 m (pc + 2) ls (.ref q :: rest))) : W p l e R s m args below meth c H locs cells slots Q (F0 m pc ls (.int n :: rest)) := by
  refine va_newa F.1.1 F.1.2.1 (by rw [hty]; exact F.1.2.2.2.2 _ k1) hty F.2.1 h.1 h.2.1 h.2.2 F.2.2.1 ha hn hN hby hc hs hdg (fun q cA H1 hK1 hP1 hD1 hS1 => ?_)
  have e1 : va_RA s cA ty := (hK1.2 (xb_ty G.2.1).length (cA, ty) (by simp)).2
  have e2 : va_RA s cA0 ty := (F.2.1.2 t0 (cA0, ty) ht).2
  obtain rfl := xb_RA e1 e2
  exact kk q H1 (by rw [← hw q]; exact ⟨hP1, hD1, hS1⟩)
theorem xb_newq {index : Nat} {n : Int32} {N' : Nat} {ws' : Nat → va_W} (F : xb_F p s m args c cc nL own G ss A) (h : xb_W G A s ws H locs) (k1 : Cond.classLink own index "java/lang/Object" ∈ xb_g) (k2 : Cond.arrayOver (.object "java/lang/Object") ∈ xb_g) (hn : ¬ n < 0) (hN : n.toNatClampNeg = N') (hby : N' * 4 ≤ 536870912) (hw : ∀ q, ws ++ [(q, .inl (G.2.1 5, N', .inr (.inr (.inr (.inr (fun _ => none))))))] = ws' q) (hc : cells + 1 ≤ R.cells) (hs : slots + N' ≤ R.slots) (hdg : decode cc pc = .ok (.anewarray index, 3))
    (kk : ∀ (q : Nat) (H1 : Heap), xb_W G A s (ws' q) H1 locs → W p l e R s m args below meth c H1 locs (cells + 1) (slots + N') Q (F0 m (pc + 3) ls (.ref q :: rest))) : W p l e R s m args below meth c H locs cells slots Q (F0 m pc ls (.int n :: rest)) := by
  refine va_newq F.1.1 F.1.2.1 F.1.2.2.2.1 (F.1.2.2.2.2 _ k1) (va_AO.of (F.1.2.2.2.2 _ k2)) F.2.1 h.1 h.2.1 h.2.2 F.2.2.1 hn hN hby hc hs hdg (fun q cA H1 hK1 hP1 hD1 hS1 => ?_)
  have e1 : va_RA s cA (.object "java/lang/Object") := (hK1.2 (xb_ty G.2.1).length (cA, .object "java/lang/Object") (by simp)).2
  have e2 : va_RA s (G.2.1 5) (.object "java/lang/Object") := (F.2.1.2 5 (G.2.1 5, .object "java/lang/Object") rfl).2
  have e3 : cA = G.2.1 5 := xb_RA e1 e2
  rw [e3] at hP1 hD1
  exact kk q H1 (by rw [← hw q]; exact ⟨hP1, hD1, hS1⟩)
/-- stores into arrays of numbers: exactly, or with contents that nobody asks (F) -/
theorem xb_iast {a n : Nat} {cA : ClassId} {f : Nat → Int32} {i x : Int32} {ws' : va_W} (F : xb_F p s m args c cc nL own G ss A) (h : xb_W G A s ws H locs) (q0 t0 : Nat) (ha : ws[q0]? = some (a, .inl (cA, n, .inl f))) (ht : (xb_ty G.2.1)[t0]? = some (cA, .int)) (hin : vp_in i n) (hw : ws.set q0 (a, .inl (cA, n, .inl (upd f i.toNatClampNeg x))) = ws') (hdg : decode cc pc = .ok (.iastore, 1))
    (kk : ∀ (H1 : Heap) (locs1 : List Loc), xb_W G A s ws' H1 locs1 → W p l e R s m args below meth c H1 locs1 cells slots Q (F0 m (pc + 1) ls rest)) : W p l e R s m args below meth c H locs cells slots Q (F0 m pc ls (.int x :: .int i :: .ref a :: rest)) := by
  subst hw
  exact va_iast F.1.1 F.1.2.1 F.2.1 h.1 h.2.1 h.2.2 q0 t0 ha ht hin hdg (fun H1 locs1 a b c => kk H1 locs1 ⟨a, b, c⟩)
theorem xb_zast {a n : Nat} {cA : ClassId} {f : Nat → Int32} {i x : Int32} {ws' : va_W} (F : xb_F p s m args c cc nL own G ss A) (h : xb_W G A s ws H locs) (q0 t0 : Nat) (ha : ws[q0]? = some (a, .inl (cA, n, .inl f))) (ht : (xb_ty G.2.1)[t0]? = some (cA, .boolean)) (hin : vp_in i n) (hw : ws.set q0 (a, .inl (cA, n, .inl (upd f i.toNatClampNeg (vp_nar .boolean x)))) = ws') (hdg : decode cc pc = .ok (.bastore, 1))
    (kk : ∀ (H1 : Heap) (locs1 : List Loc), xb_W G A s ws' H1 locs1 → W p l e R s m args below meth c H1 locs1 cells slots Q (F0 m (pc + 1) ls rest)) : W p l e R s m args below meth c H locs cells slots Q (F0 m pc ls (.int x :: .int i :: .ref a :: rest)) := by
  subst hw
  exact va_zast F.1.1 F.1.2.1 F.2.1 h.1 h.2.1 h.2.2 q0 t0 ha ht hin hdg (fun H1 locs1 a b c => kk H1 locs1 ⟨a, b, c⟩)
theorem xb_last {a n : Nat} {cA : ClassId} {f : Nat → Int64} {i : Int32} {x : Int64} {ws' : va_W} (F : xb_F p s m args c cc nL own G ss A) (h : xb_W G A s ws H locs) (q0 t0 : Nat) (ha : ws[q0]? = some (a, .inl (cA, n, .inr (.inl f)))) (ht : (xb_ty G.2.1)[t0]? = some (cA, .long)) (hin : vp_in i n) (hw : ws.set q0 (a, .inl (cA, n, .inr (.inl (vp_updL f i.toNatClampNeg x)))) = ws') (hdg : decode cc pc = .ok (.lastore, 1))
    (kk : ∀ (H1 : Heap) (locs1 : List Loc), xb_W G A s ws' H1 locs1 → W p l e R s m args below meth c H1 locs1 cells slots Q (F0 m (pc + 1) ls rest)) : W p l e R s m args below meth c H locs cells slots Q (F0 m pc ls (.long x :: .int i :: .ref a :: rest)) := by
  subst hw
  exact va_last F.1.1 F.1.2.1 F.2.1 h.1 h.2.1 h.2.2 q0 t0 ha ht hin hdg (fun H1 locs1 a b c => kk H1 locs1 ⟨a, b, c⟩)
theorem xb_cast {a n : Nat} {cA : ClassId} {f : Nat → Int32} {i x : Int32} {ws' : va_W} (F : xb_F p s m args c cc nL own G ss A) (h : xb_W G A s ws H locs) (q0 t0 : Nat) (ha : ws[q0]? = some (a, .inl (cA, n, .inl f))) (ht : (xb_ty G.2.1)[t0]? = some (cA, .char)) (hin : vp_in i n) (hw : ws.set q0 (a, .inl (cA, n, .inl (upd f i.toNatClampNeg (vp_nar .char x)))) = ws') (hdg : decode cc pc = .ok (.castore, 1))
    (kk : ∀ (H1 : Heap) (locs1 : List Loc), xb_W G A s ws' H1 locs1 → W p l e R s m args below meth c H1 locs1 cells slots Q (F0 m (pc + 1) ls rest)) : W p l e R s m args below meth c H locs cells slots Q (F0 m pc ls (.int x :: .int i :: .ref a :: rest)) := by
  subst hw
  exact va_cast F.1.1 F.1.2.1 F.2.1 h.1 h.2.1 h.2.2 q0 t0 ha ht hin hdg (fun H1 locs1 a b c => kk H1 locs1 ⟨a, b, c⟩)
theorem xb_iastF {a n : Nat} {cA : ClassId} {f : Nat → Int32} {i x : Int32} {ws' : (Nat → Int32) → va_W} (F : xb_F p s m args c cc nL own G ss A) (h : xb_W G A s ws H locs) (q0 t0 : Nat) (ha : ws[q0]? = some (a, .inl (cA, n, .inl f))) (ht : (xb_ty G.2.1)[t0]? = some (cA, .int)) (hin : vp_in i n) (hw : ∀ g, ws.set q0 (a, .inl (cA, n, .inl g)) = ws' g) (hdg : decode cc pc = .ok (.iastore, 1))
    (kk : ∀ (g : Nat → Int32) (H1 : Heap) (locs1 : List Loc), xb_W G A s (ws' g) H1 locs1 → W p l e R s m args below meth c H1 locs1 cells slots Q (F0 m (pc + 1) ls rest)) : W p l e R s m args below meth c H locs cells slots Q (F0 m pc ls (.int x :: .int i :: .ref a :: rest)) :=
  xb_iast F h q0 t0 ha ht hin (hw _) hdg (kk _)
theorem xb_zastF {a n : Nat} {cA : ClassId} {f : Nat → Int32} {i x : Int32} {ws' : (Nat → Int32) → va_W} (F : xb_F p s m args c cc nL own G ss A) (h : xb_W G A s ws H locs) (q0 t0 : Nat) (ha : ws[q0]? = some (a, .inl (cA, n, .inl f))) (ht : (xb_ty G.2.1)[t0]? = some (cA, .boolean)) (hin : vp_in i n) (hw : ∀ g, ws.set q0 (a, .inl (cA, n, .inl g)) = ws' g) (hdg : decode cc pc = .ok (.bastore, 1))
    (kk : ∀ (g : Nat → Int32) (H1 : Heap) (locs1 : List Loc), xb_W G A s (ws' g) H1 locs1 → W p l e R s m args below meth c H1 locs1 cells slots Q (F0 m (pc + 1) ls rest)) : W p l e R s m args below meth c H locs cells slots Q (F0 m pc ls (.int x :: .int i :: .ref a :: rest)) :=
  xb_zast F h q0 t0 ha ht hin (hw _) hdg (kk _)
theorem xb_lastF {a n : Nat} {cA : ClassId} {f : Nat → Int64} {i : Int32} {x : Int64} {ws' : (Nat → Int64) → va_W} (F : xb_F p s m args c cc nL own G ss A) (h : xb_W G A s ws H locs) (q0 t0 : Nat) (ha : ws[q0]? = some (a, .inl (cA, n, .inr (.inl f)))) (ht : (xb_ty G.2.1)[t0]? = some (cA, .long)) (hin : vp_in i n) (hw : ∀ g, ws.set q0 (a, .inl (cA, n, .inr (.inl g))) = ws' g) (hdg : decode cc pc = .ok (.lastore, 1))
    (kk : ∀ (g : Nat → Int64) (H1 : Heap) (locs1 : List Loc), xb_W G A s (ws' g) H1 locs1 → W p l e R s m args below meth c H1 locs1 cells slots Q (F0 m (pc + 1) ls rest)) : W p l e R s m args below meth c H locs cells slots Q (F0 m pc ls (.long x :: .int i :: .ref a :: rest)) :=
  xb_last F h q0 t0 ha ht hin (hw _) hdg (kk _)
theorem xb_castF {a n : Nat} {cA : ClassId} {f : Nat → Int32} {i x : Int32} {ws' : (Nat → Int32) → va_W} (F : xb_F p s m args c cc nL own G ss A) (h : xb_W G A s ws H locs) (q0 t0 : Nat) (ha : ws[q0]? = some (a, .inl (cA, n, .inl f))) (ht : (xb_ty G.2.1)[t0]? = some (cA, .char)) (hin : vp_in i n) (hw : ∀ g, ws.set q0 (a, .inl (cA, n, .inl g)) = ws' g) (hdg : decode cc pc = .ok (.castore, 1))
    (kk : ∀ (g : Nat → Int32) (H1 : Heap) (locs1 : List Loc), xb_W G A s (ws' g) H1 locs1 → W p l e R s m args below meth c H1 locs1 cells slots Q (F0 m (pc + 1) ls rest)) : W p l e R s m args below meth c H locs cells slots Q (F0 m pc ls (.int x :: .int i :: .ref a :: rest)) :=
  xb_cast F h q0 t0 ha ht hin (hw _) hdg (kk _)
/-- an object into a row of objects -/
theorem xb_aast {a n v ci : Nat} {f : Nat → Option Nat} {vs : List Value} {r : vw_C} {i : Int32} {ws' : va_W} (F : xb_F p s m args c cc nL own G ss A) (h : xb_W G A s ws H locs) (q0 qk : Nat) (ha : ws[q0]? = some (a, .inl (G.2.1 5, n, .inr (.inr (.inr (.inr f)))))) (hca : (r.1, "java/lang/Object") ∈ xb_cs) (hv : ws[qk]? = some (v, .inr (ci, vs))) (hc : xb_cl[ci]? = some r) (hin : vp_in i n) (hw : ws.set q0 (a, .inl (G.2.1 5, n, .inr (.inr (.inr (.inr (va_up f i.toNatClampNeg (some v))))))) = ws') (hdg : decode cc pc = .ok (.aastore, 1))
    (kk : ∀ (H1 : Heap) (locs1 : List Loc), xb_W G A s ws' H1 locs1 → W p l e R s m args below meth c H1 locs1 cells slots Q (F0 m (pc + 1) ls rest)) : W p l e R s m args below meth c H locs cells slots Q (F0 m pc ls (.ref v :: .int i :: .ref a :: rest)) := by
  subst hw
  exact va_astqO F.1.1 F.1.2.1 F.2.1 h.1 h.2.1 h.2.2 q0 5 qk ci ha rfl (F.2.2.2.1.2.2.2.2.2.2 _ hca) hv hc hin hdg (fun H1 locs1 a b c => kk H1 locs1 ⟨a, b, c⟩)
/-- fewer cells, by their places -/
theorem xb_subP {ws' : va_W} (hP : xb_P G ws H) (is : List Nat) (hw : is.map (fun i => ws[i]?) = ws'.map some) : xb_P G ws' H := by
  intro k q hk
  obtain ⟨i, hi⟩ : ∃ i : Nat, ws[i]? = some q := by
    have h1 : (ws'.map some)[k]? = some (some q) := by rw [List.getElem?_map, hk]; rfl
    rw [← hw, List.getElem?_map] at h1
    cases h2 : is[k]? with
    | none => rw [h2] at h1; cases h1
    | some i => rw [h2] at h1; exact ⟨i, Option.some.inj h1⟩
  exact hP i q hi
theorem xb_sub {ws' : va_W} (h : xb_W G A s ws H locs) (is : List Nat) (hn : va_nd is = true) (hw : is.map (fun i => ws[i]?) = ws'.map some) : xb_W G A s ws' H locs := ⟨xb_subP h.1 is hw, h.2.1.sub is hn hw, h.2.2⟩
theorem xb_fr {st t : State} (hS : va_S A st.heap H locs) (hA : ∀ q, A q ↔ va_A wc st.heap.size q) (ht : t.heap = H) : va_F (va_A wc st.heap.size) st t := ⟨by rw [ht]; exact hS.1, fun q h1 h2 => by rw [ht]; exact hS.2.1 q h1 (fun z => h2 ((hA q).1 z))⟩
theorem xb_vret {rm : Room} {S : Type} {val : S → Option Value} {post : S → Prop} {w1 : S → va_W} (F : xb_F p s m args c cc nL own G ss A) (hr : meth.sig.returnType = none) (hlk : meth.locks = false) (hA : ∀ q, A q ↔ va_A wc s.heap.size q) (hQ : Q = MQ below (xb_Q G wc s.heap.size val post w1) args s rm.cells rm.slots (va_A wc s.heap.size)) (h : xb_W G A s ws H locs) (u : S) (hu : post u) (hval : val u = none) (is : List Nat) (hn : va_nd is = true) (hw : is.map (fun i => ws[i]?) = (w1 u).map some) (hc : cells ≤ rm.cells) (hs : slots ≤ rm.slots) (hdg : decode cc pc = .ok (.return_, 1)) :
    W p l e R s m args below meth c H locs cells slots Q (F0 m pc ls []) := by
  subst hQ
  exact W.widen hc hs (W.vret F.1.1 F.1.2.1 hr (fun t ht _ => ⟨⟨u, by rw [hval], hu, by rw [ht]; exact xb_subP h.1 is hw, (h.2.1.sub is hn hw).weaken (fun _ _ _ z => (hA _).1 z)⟩, xb_fr h.2.2 hA ht⟩) (fun q hq => (hA _).1 (h.2.2.2.2 q hq)) hdg (hlocks := hlk))
theorem xb_iret {v : Int32} {rm : Room} {S : Type} {val : S → Option Value} {post : S → Prop} {w1 : S → va_W} (F : xb_F p s m args c cc nL own G ss A) (hr : meth.sig.returnType = some .int) (hlk : meth.locks = false) (hA : ∀ q, A q ↔ va_A wc s.heap.size q) (hQ : Q = MQ below (xb_Q G wc s.heap.size val post w1) args s rm.cells rm.slots (va_A wc s.heap.size)) (h : xb_W G A s ws H locs) (u : S) (hu : post u) (hval : val u = some (.int v)) (is : List Nat) (hn : va_nd is = true) (hw : is.map (fun i => ws[i]?) = (w1 u).map some) (hc : cells ≤ rm.cells) (hs : slots ≤ rm.slots) (hdg : decode cc pc = .ok (.ireturn, 1)) :
    W p l e R s m args below meth c H locs cells slots Q (F0 m pc ls [.int v]) := by
  subst hQ
  exact W.widen hc hs (W.iret F.1.1 F.1.2.1 hr (fun t ht _ => ⟨⟨u, by rw [hval], hu, by rw [ht]; exact xb_subP h.1 is hw, (h.2.1.sub is hn hw).weaken (fun _ _ _ z => (hA _).1 z)⟩, xb_fr h.2.2 hA ht⟩) (fun q hq => (hA _).1 (h.2.2.2.2 q hq)) hdg (hlocks := hlk))
theorem xb_zret {v : Int32} {ty : FieldType} {rm : Room} {S : Type} {val : S → Option Value} {post : S → Prop} {w1 : S → va_W} (F : xb_F p s m args c cc nL own G ss A) (hr : meth.sig.returnType = some ty) (hlk : meth.locks = false) (hnar : narrow ty (.int v) = .int v) (hA : ∀ q, A q ↔ va_A wc s.heap.size q) (hQ : Q = MQ below (xb_Q G wc s.heap.size val post w1) args s rm.cells rm.slots (va_A wc s.heap.size)) (h : xb_W G A s ws H locs) (u : S) (hu : post u) (hval : val u = some (.int v)) (is : List Nat) (hn : va_nd is = true) (hw : is.map (fun i => ws[i]?) = (w1 u).map some) (hc : cells ≤ rm.cells) (hs : slots ≤ rm.slots) (hdg : decode cc pc = .ok (.ireturn, 1)) :
    W p l e R s m args below meth c H locs cells slots Q (F0 m pc ls [.int v]) := by
  subst hQ
  exact W.widen hc hs (W.zret F.1.1 F.1.2.1 hr hnar (fun t ht _ => ⟨⟨u, by rw [hval], hu, by rw [ht]; exact xb_subP h.1 is hw, (h.2.1.sub is hn hw).weaken (fun _ _ _ z => (hA _).1 z)⟩, xb_fr h.2.2 hA ht⟩) (fun q hq => (hA _).1 (h.2.2.2.2 q hq)) hdg (hlocks := hlk))
theorem xb_lret {v : Int64} {rm : Room} {S : Type} {val : S → Option Value} {post : S → Prop} {w1 : S → va_W} (F : xb_F p s m args c cc nL own G ss A) (hr : meth.sig.returnType = some .long) (hlk : meth.locks = false) (hA : ∀ q, A q ↔ va_A wc s.heap.size q) (hQ : Q = MQ below (xb_Q G wc s.heap.size val post w1) args s rm.cells rm.slots (va_A wc s.heap.size)) (h : xb_W G A s ws H locs) (u : S) (hu : post u) (hval : val u = some (.long v)) (is : List Nat) (hn : va_nd is = true) (hw : is.map (fun i => ws[i]?) = (w1 u).map some) (hc : cells ≤ rm.cells) (hs : slots ≤ rm.slots) (hdg : decode cc pc = .ok (.lreturn, 1)) :
    W p l e R s m args below meth c H locs cells slots Q (F0 m pc ls [.long v]) := by
  subst hQ
  exact W.widen hc hs (W.lret F.1.1 F.1.2.1 hr (fun t ht _ => ⟨⟨u, by rw [hval], hu, by rw [ht]; exact xb_subP h.1 is hw, (h.2.1.sub is hn hw).weaken (fun _ _ _ z => (hA _).1 z)⟩, xb_fr h.2.2 hA ht⟩) (fun q hq => (hA _).1 (h.2.2.2.2 q hq)) hdg (hlocks := hlk))
theorem xb_aret {v : Value} {rt : FieldType} {rm : Room} {S : Type} {val : S → Option Value} {post : S → Prop} {w1 : S → va_W} (F : xb_F p s m args c cc nL own G ss A) (hr : meth.sig.returnType = some rt) (hrt : (∃ n, rt = .object n) ∨ ∃ t, rt = .array t) (hv : v = .null ∨ ∃ a, v = .ref a) (hlk : meth.locks = false) (hA : ∀ q, A q ↔ va_A wc s.heap.size q) (hQ : Q = MQ below (xb_Q G wc s.heap.size val post w1) args s rm.cells rm.slots (va_A wc s.heap.size)) (h : xb_W G A s ws H locs) (u : S) (hu : post u) (hval : val u = some v) (is : List Nat) (hn : va_nd is = true) (hw : is.map (fun i => ws[i]?) = (w1 u).map some) (hc : cells ≤ rm.cells) (hs : slots ≤ rm.slots) (hdg : decode cc pc = .ok (.areturn, 1)) :
    W p l e R s m args below meth c H locs cells slots Q (F0 m pc ls [v]) := by
  subst hQ
  exact W.widen hc hs (W.aret F.1.1 F.1.2.1 hr hrt hv (fun t ht _ => ⟨⟨u, by rw [hval], hu, by rw [ht]; exact xb_subP h.1 is hw, (h.2.1.sub is hn hw).weaken (fun _ _ _ z => (hA _).1 z)⟩, xb_fr h.2.2 hA ht⟩) (fun q hq => (hA _).1 (h.2.2.2.2 q hq)) hdg (hlocks := hlk))
end XBW
end
