section
-- ===== PART A: goes FIRST, ahead of the names: the tables' words, and 'selects' of the private methods out of them =====
/-- a private method of a class that the tables say can be made, by its rows of tables_1 -/
def lw_okq (q : MethodName × Nat) : Prop := (q.1.cls ≠ "java/lang/invoke/MethodHandle" ∧ q.1.cls ≠ "java/lang/invoke/VarHandle") ∧ Cond.instantiable q.1.cls q.2 ∈ tables_1 ∧ Cond.privateMethod q.1 ∈ tables_1 ∧ Cond.instanceMethod q.1 ∈ tables_1
theorem lw_p0 : lw_okq (⟨"java/lang/Throwable", "fillInStackTrace", "(I)Ljava/lang/Throwable;"⟩, 6) := ⟨⟨by decide +kernel, by decide +kernel⟩, List.mem_of_getElem? (i := 176) (by decide +kernel), List.mem_of_getElem? (i := 174) (by decide +kernel), List.mem_of_getElem? (i := 175) (by decide +kernel)⟩
theorem lw_p1 : lw_okq (⟨"java/util/ArrayList", "add", "(Ljava/lang/Object;[Ljava/lang/Object;I)V"⟩, 3) := ⟨⟨by decide +kernel, by decide +kernel⟩, List.mem_of_getElem? (i := 518) (by decide +kernel), List.mem_of_getElem? (i := 610) (by decide +kernel), List.mem_of_getElem? (i := 611) (by decide +kernel)⟩
theorem lw_p2 : lw_okq (⟨"java/util/ArrayList", "grow", "()[Ljava/lang/Object;"⟩, 3) := ⟨⟨by decide +kernel, by decide +kernel⟩, List.mem_of_getElem? (i := 518) (by decide +kernel), List.mem_of_getElem? (i := 614) (by decide +kernel), List.mem_of_getElem? (i := 615) (by decide +kernel)⟩
theorem lw_p3 : lw_okq (⟨"java/util/ArrayList", "grow", "(I)[Ljava/lang/Object;"⟩, 3) := ⟨⟨by decide +kernel, by decide +kernel⟩, List.mem_of_getElem? (i := 518) (by decide +kernel), List.mem_of_getElem? (i := 618) (by decide +kernel), List.mem_of_getElem? (i := 619) (by decide +kernel)⟩
theorem lw_p4 : lw_okq (⟨"TypeFinder$Writer", "put", "(LTypeFinder$Type;I)V"⟩, 2) := ⟨⟨by decide +kernel, by decide +kernel⟩, List.mem_of_getElem? (i := 748) (by decide +kernel), List.mem_of_getElem? (i := 896) (by decide +kernel), List.mem_of_getElem? (i := 897) (by decide +kernel)⟩
theorem lw_p5 : lw_okq (⟨"TypeFinder$Writer", "putBracketed", "(LTypeFinder$Type;ZI)V"⟩, 2) := ⟨⟨by decide +kernel, by decide +kernel⟩, List.mem_of_getElem? (i := 748) (by decide +kernel), List.mem_of_getElem? (i := 907) (by decide +kernel), List.mem_of_getElem? (i := 908) (by decide +kernel)⟩
theorem lw_p6 : lw_okq (⟨"TypeFinder$Writer", "putWord", "(J)V"⟩, 2) := ⟨⟨by decide +kernel, by decide +kernel⟩, List.mem_of_getElem? (i := 748) (by decide +kernel), List.mem_of_getElem? (i := 926) (by decide +kernel), List.mem_of_getElem? (i := 927) (by decide +kernel)⟩
theorem lw_p7 : lw_okq (⟨"TypeFinder$Writer", "putParameter", "(LTypeFinder$Type;I)V"⟩, 2) := ⟨⟨by decide +kernel, by decide +kernel⟩, List.mem_of_getElem? (i := 748) (by decide +kernel), List.mem_of_getElem? (i := 931) (by decide +kernel), List.mem_of_getElem? (i := 932) (by decide +kernel)⟩
theorem lw_p8 : lw_okq (⟨"TypeFinder$Writer", "putVariable", "(LTypeFinder$Type;)V"⟩, 2) := ⟨⟨by decide +kernel, by decide +kernel⟩, List.mem_of_getElem? (i := 748) (by decide +kernel), List.mem_of_getElem? (i := 935) (by decide +kernel), List.mem_of_getElem? (i := 936) (by decide +kernel)⟩
theorem lw_p9 : lw_okq (⟨"TypeFinder", "takeDraft", "()I"⟩, 9) := ⟨⟨by decide +kernel, by decide +kernel⟩, List.mem_of_getElem? (i := 40) (by decide +kernel), List.mem_of_getElem? (i := 1041) (by decide +kernel), List.mem_of_getElem? (i := 1042) (by decide +kernel)⟩
theorem lw_p10 : lw_okq (⟨"TypeFinder$Tokens", "readLetters", "([CII)I"⟩, 5) := ⟨⟨by decide +kernel, by decide +kernel⟩, List.mem_of_getElem? (i := 54) (by decide +kernel), List.mem_of_getElem? (i := 1059) (by decide +kernel), List.mem_of_getElem? (i := 1060) (by decide +kernel)⟩
theorem lw_p11 : lw_okq (⟨"TypeFinder$Tokens", "wordKind", "(J)I"⟩, 5) := ⟨⟨by decide +kernel, by decide +kernel⟩, List.mem_of_getElem? (i := 54) (by decide +kernel), List.mem_of_getElem? (i := 1074) (by decide +kernel), List.mem_of_getElem? (i := 1075) (by decide +kernel)⟩
theorem lw_p12 : lw_okq (⟨"TypeFinder$Tokens", "put", "(IJ)V"⟩, 5) := ⟨⟨by decide +kernel, by decide +kernel⟩, List.mem_of_getElem? (i := 54) (by decide +kernel), List.mem_of_getElem? (i := 1078) (by decide +kernel), List.mem_of_getElem? (i := 1079) (by decide +kernel)⟩
theorem lw_p13 : lw_okq (⟨"TypeFinder$Tokens", "readDigits", "([CII)I"⟩, 5) := ⟨⟨by decide +kernel, by decide +kernel⟩, List.mem_of_getElem? (i := 54) (by decide +kernel), List.mem_of_getElem? (i := 1085) (by decide +kernel), List.mem_of_getElem? (i := 1086) (by decide +kernel)⟩
theorem lw_p14 : lw_okq (⟨"TypeFinder$Tokens", "readSign", "(C)V"⟩, 5) := ⟨⟨by decide +kernel, by decide +kernel⟩, List.mem_of_getElem? (i := 54) (by decide +kernel), List.mem_of_getElem? (i := 1090) (by decide +kernel), List.mem_of_getElem? (i := 1091) (by decide +kernel)⟩
theorem lw_p15 : lw_okq (⟨"TypeFinder$DataParser", "alternative", "()LTypeFinder$Node;"⟩, 1) := ⟨⟨by decide +kernel, by decide +kernel⟩, List.mem_of_getElem? (i := 440) (by decide +kernel), List.mem_of_getElem? (i := 1162) (by decide +kernel), List.mem_of_getElem? (i := 1163) (by decide +kernel)⟩
def lw_privs_1 : List (MethodName × Nat) := [(⟨"java/lang/Throwable", "fillInStackTrace", "(I)Ljava/lang/Throwable;"⟩, 6), (⟨"java/util/ArrayList", "add", "(Ljava/lang/Object;[Ljava/lang/Object;I)V"⟩, 3), (⟨"java/util/ArrayList", "grow", "()[Ljava/lang/Object;"⟩, 3), (⟨"java/util/ArrayList", "grow", "(I)[Ljava/lang/Object;"⟩, 3), (⟨"TypeFinder$Writer", "put", "(LTypeFinder$Type;I)V"⟩, 2), (⟨"TypeFinder$Writer", "putBracketed", "(LTypeFinder$Type;ZI)V"⟩, 2), (⟨"TypeFinder$Writer", "putWord", "(J)V"⟩, 2), (⟨"TypeFinder$Writer", "putParameter", "(LTypeFinder$Type;I)V"⟩, 2), (⟨"TypeFinder$Writer", "putVariable", "(LTypeFinder$Type;)V"⟩, 2), (⟨"TypeFinder", "takeDraft", "()I"⟩, 9), (⟨"TypeFinder$Tokens", "readLetters", "([CII)I"⟩, 5), (⟨"TypeFinder$Tokens", "wordKind", "(J)I"⟩, 5), (⟨"TypeFinder$Tokens", "put", "(IJ)V"⟩, 5), (⟨"TypeFinder$Tokens", "readDigits", "([CII)I"⟩, 5), (⟨"TypeFinder$Tokens", "readSign", "(C)V"⟩, 5), (⟨"TypeFinder$DataParser", "alternative", "()LTypeFinder$Node;"⟩, 1)]
theorem lw_r1 : ∀ q ∈ lw_privs_1, lw_okq q := List.forall_mem_cons.mpr ⟨lw_p0, List.forall_mem_cons.mpr ⟨lw_p1, List.forall_mem_cons.mpr ⟨lw_p2, List.forall_mem_cons.mpr ⟨lw_p3, List.forall_mem_cons.mpr ⟨lw_p4, List.forall_mem_cons.mpr ⟨lw_p5, List.forall_mem_cons.mpr ⟨lw_p6, List.forall_mem_cons.mpr ⟨lw_p7, List.forall_mem_cons.mpr ⟨lw_p8, List.forall_mem_cons.mpr ⟨lw_p9, List.forall_mem_cons.mpr ⟨lw_p10, List.forall_mem_cons.mpr ⟨lw_p11, List.forall_mem_cons.mpr ⟨lw_p12, List.forall_mem_cons.mpr ⟨lw_p13, List.forall_mem_cons.mpr ⟨lw_p14, List.forall_mem_cons.mpr ⟨lw_p15, fun _ h => absurd h List.not_mem_nil⟩⟩⟩⟩⟩⟩⟩⟩⟩⟩⟩⟩⟩⟩⟩⟩
theorem lw_p16 : lw_okq (⟨"TypeFinder$DataParser", "typeAtom", "(I)LTypeFinder$Node;"⟩, 1) := ⟨⟨by decide +kernel, by decide +kernel⟩, List.mem_of_getElem? (i := 440) (by decide +kernel), List.mem_of_getElem? (i := 1173) (by decide +kernel), List.mem_of_getElem? (i := 1174) (by decide +kernel)⟩
theorem lw_p17 : lw_okq (⟨"TypeFinder$DataParser", "wholeType", "(I)LTypeFinder$Node;"⟩, 1) := ⟨⟨by decide +kernel, by decide +kernel⟩, List.mem_of_getElem? (i := 440) (by decide +kernel), List.mem_of_getElem? (i := 1178) (by decide +kernel), List.mem_of_getElem? (i := 1179) (by decide +kernel)⟩
theorem lw_p18 : lw_okq (⟨"TypeFinder$Parser", "operatorDefinition", "()LTypeFinder$Node;"⟩, 4) := ⟨⟨by decide +kernel, by decide +kernel⟩, List.mem_of_getElem? (i := 48) (by decide +kernel), List.mem_of_getElem? (i := 1191) (by decide +kernel), List.mem_of_getElem? (i := 1192) (by decide +kernel)⟩
theorem lw_p19 : lw_okq (⟨"TypeFinder$Parser", "expression", "(I)LTypeFinder$Node;"⟩, 4) := ⟨⟨by decide +kernel, by decide +kernel⟩, List.mem_of_getElem? (i := 48) (by decide +kernel), List.mem_of_getElem? (i := 1199) (by decide +kernel), List.mem_of_getElem? (i := 1200) (by decide +kernel)⟩
theorem lw_p20 : lw_okq (⟨"TypeFinder$Parser", "function", "(I)LTypeFinder$Node;"⟩, 4) := ⟨⟨by decide +kernel, by decide +kernel⟩, List.mem_of_getElem? (i := 48) (by decide +kernel), List.mem_of_getElem? (i := 1205) (by decide +kernel), List.mem_of_getElem? (i := 1206) (by decide +kernel)⟩
theorem lw_p21 : lw_okq (⟨"TypeFinder$Parser", "let", "(I)LTypeFinder$Node;"⟩, 4) := ⟨⟨by decide +kernel, by decide +kernel⟩, List.mem_of_getElem? (i := 48) (by decide +kernel), List.mem_of_getElem? (i := 1210) (by decide +kernel), List.mem_of_getElem? (i := 1211) (by decide +kernel)⟩
theorem lw_p22 : lw_okq (⟨"TypeFinder$Parser", "definition", "(I)LTypeFinder$Node;"⟩, 4) := ⟨⟨by decide +kernel, by decide +kernel⟩, List.mem_of_getElem? (i := 48) (by decide +kernel), List.mem_of_getElem? (i := 1214) (by decide +kernel), List.mem_of_getElem? (i := 1215) (by decide +kernel)⟩
theorem lw_p23 : lw_okq (⟨"TypeFinder$Parser", "choice", "(I)LTypeFinder$Node;"⟩, 4) := ⟨⟨by decide +kernel, by decide +kernel⟩, List.mem_of_getElem? (i := 48) (by decide +kernel), List.mem_of_getElem? (i := 1219) (by decide +kernel), List.mem_of_getElem? (i := 1220) (by decide +kernel)⟩
theorem lw_p24 : lw_okq (⟨"TypeFinder$Parser", "cases", "(I)LTypeFinder$Node;"⟩, 4) := ⟨⟨by decide +kernel, by decide +kernel⟩, List.mem_of_getElem? (i := 48) (by decide +kernel), List.mem_of_getElem? (i := 1223) (by decide +kernel), List.mem_of_getElem? (i := 1224) (by decide +kernel)⟩
theorem lw_p25 : lw_okq (⟨"TypeFinder$Parser", "pattern", "()LTypeFinder$Node;"⟩, 4) := ⟨⟨by decide +kernel, by decide +kernel⟩, List.mem_of_getElem? (i := 48) (by decide +kernel), List.mem_of_getElem? (i := 1227) (by decide +kernel), List.mem_of_getElem? (i := 1228) (by decide +kernel)⟩
theorem lw_p26 : lw_okq (⟨"TypeFinder$Parser", "name", "()J"⟩, 4) := ⟨⟨by decide +kernel, by decide +kernel⟩, List.mem_of_getElem? (i := 48) (by decide +kernel), List.mem_of_getElem? (i := 1231) (by decide +kernel), List.mem_of_getElem? (i := 1232) (by decide +kernel)⟩
theorem lw_p27 : lw_okq (⟨"TypeFinder$Parser", "startsName", "()Z"⟩, 4) := ⟨⟨by decide +kernel, by decide +kernel⟩, List.mem_of_getElem? (i := 48) (by decide +kernel), List.mem_of_getElem? (i := 1235) (by decide +kernel), List.mem_of_getElem? (i := 1236) (by decide +kernel)⟩
theorem lw_p28 : lw_okq (⟨"TypeFinder$Parser", "chain", "(I)LTypeFinder$Node;"⟩, 4) := ⟨⟨by decide +kernel, by decide +kernel⟩, List.mem_of_getElem? (i := 48) (by decide +kernel), List.mem_of_getElem? (i := 1244) (by decide +kernel), List.mem_of_getElem? (i := 1245) (by decide +kernel)⟩
theorem lw_p29 : lw_okq (⟨"TypeFinder$Parser", "application", "(I)LTypeFinder$Node;"⟩, 4) := ⟨⟨by decide +kernel, by decide +kernel⟩, List.mem_of_getElem? (i := 48) (by decide +kernel), List.mem_of_getElem? (i := 1248) (by decide +kernel), List.mem_of_getElem? (i := 1249) (by decide +kernel)⟩
theorem lw_p30 : lw_okq (⟨"TypeFinder$Parser", "atom", "(I)LTypeFinder$Node;"⟩, 4) := ⟨⟨by decide +kernel, by decide +kernel⟩, List.mem_of_getElem? (i := 48) (by decide +kernel), List.mem_of_getElem? (i := 1252) (by decide +kernel), List.mem_of_getElem? (i := 1253) (by decide +kernel)⟩
theorem lw_p31 : lw_okq (⟨"TypeFinder$Parser", "startsAtom", "()Z"⟩, 4) := ⟨⟨by decide +kernel, by decide +kernel⟩, List.mem_of_getElem? (i := 48) (by decide +kernel), List.mem_of_getElem? (i := 1256) (by decide +kernel), List.mem_of_getElem? (i := 1257) (by decide +kernel)⟩
def lw_privs_2 : List (MethodName × Nat) := [(⟨"TypeFinder$DataParser", "typeAtom", "(I)LTypeFinder$Node;"⟩, 1), (⟨"TypeFinder$DataParser", "wholeType", "(I)LTypeFinder$Node;"⟩, 1), (⟨"TypeFinder$Parser", "operatorDefinition", "()LTypeFinder$Node;"⟩, 4), (⟨"TypeFinder$Parser", "expression", "(I)LTypeFinder$Node;"⟩, 4), (⟨"TypeFinder$Parser", "function", "(I)LTypeFinder$Node;"⟩, 4), (⟨"TypeFinder$Parser", "let", "(I)LTypeFinder$Node;"⟩, 4), (⟨"TypeFinder$Parser", "definition", "(I)LTypeFinder$Node;"⟩, 4), (⟨"TypeFinder$Parser", "choice", "(I)LTypeFinder$Node;"⟩, 4), (⟨"TypeFinder$Parser", "cases", "(I)LTypeFinder$Node;"⟩, 4), (⟨"TypeFinder$Parser", "pattern", "()LTypeFinder$Node;"⟩, 4), (⟨"TypeFinder$Parser", "name", "()J"⟩, 4), (⟨"TypeFinder$Parser", "startsName", "()Z"⟩, 4), (⟨"TypeFinder$Parser", "chain", "(I)LTypeFinder$Node;"⟩, 4), (⟨"TypeFinder$Parser", "application", "(I)LTypeFinder$Node;"⟩, 4), (⟨"TypeFinder$Parser", "atom", "(I)LTypeFinder$Node;"⟩, 4), (⟨"TypeFinder$Parser", "startsAtom", "()Z"⟩, 4)]
theorem lw_r2 : ∀ q ∈ lw_privs_2, lw_okq q := List.forall_mem_cons.mpr ⟨lw_p16, List.forall_mem_cons.mpr ⟨lw_p17, List.forall_mem_cons.mpr ⟨lw_p18, List.forall_mem_cons.mpr ⟨lw_p19, List.forall_mem_cons.mpr ⟨lw_p20, List.forall_mem_cons.mpr ⟨lw_p21, List.forall_mem_cons.mpr ⟨lw_p22, List.forall_mem_cons.mpr ⟨lw_p23, List.forall_mem_cons.mpr ⟨lw_p24, List.forall_mem_cons.mpr ⟨lw_p25, List.forall_mem_cons.mpr ⟨lw_p26, List.forall_mem_cons.mpr ⟨lw_p27, List.forall_mem_cons.mpr ⟨lw_p28, List.forall_mem_cons.mpr ⟨lw_p29, List.forall_mem_cons.mpr ⟨lw_p30, List.forall_mem_cons.mpr ⟨lw_p31, fun _ h => absurd h List.not_mem_nil⟩⟩⟩⟩⟩⟩⟩⟩⟩⟩⟩⟩⟩⟩⟩⟩
theorem lw_p32 : lw_okq (⟨"TypeFinder$Parser", "refuseWithoutLevel", "(J)V"⟩, 4) := ⟨⟨by decide +kernel, by decide +kernel⟩, List.mem_of_getElem? (i := 48) (by decide +kernel), List.mem_of_getElem? (i := 1260) (by decide +kernel), List.mem_of_getElem? (i := 1261) (by decide +kernel)⟩
theorem lw_p33 : lw_okq (⟨"TypeFinder$Parser", "placeAhead", "(LTypeFinder$Node;LTypeFinder$Node;LTypeFinder$Node;)LTypeFinder$Node;"⟩, 4) := ⟨⟨by decide +kernel, by decide +kernel⟩, List.mem_of_getElem? (i := 48) (by decide +kernel), List.mem_of_getElem? (i := 1267) (by decide +kernel), List.mem_of_getElem? (i := 1268) (by decide +kernel)⟩
theorem lw_p34 : lw_okq (⟨"TypeFinder$Parser", "bindsAhead", "(JJ)Z"⟩, 4) := ⟨⟨by decide +kernel, by decide +kernel⟩, List.mem_of_getElem? (i := 48) (by decide +kernel), List.mem_of_getElem? (i := 1271) (by decide +kernel), List.mem_of_getElem? (i := 1272) (by decide +kernel)⟩
theorem lw_p35 : lw_okq (⟨"TypeFinder$Known", "dataType", "(J)LTypeFinder$DataType;"⟩, 5) := ⟨⟨by decide +kernel, by decide +kernel⟩, List.mem_of_getElem? (i := 464) (by decide +kernel), List.mem_of_getElem? (i := 1284) (by decide +kernel), List.mem_of_getElem? (i := 1285) (by decide +kernel)⟩
theorem lw_p36 : lw_okq (⟨"TypeFinder$Known", "addConstructor", "(LTypeFinder$DataType;LTypeFinder$Node;LTypeFinder$Node;)V"⟩, 5) := ⟨⟨by decide +kernel, by decide +kernel⟩, List.mem_of_getElem? (i := 464) (by decide +kernel), List.mem_of_getElem? (i := 1303) (by decide +kernel), List.mem_of_getElem? (i := 1304) (by decide +kernel)⟩
theorem lw_p37 : lw_okq (⟨"TypeFinder$Known", "typeOf", "(LTypeFinder$Node;LTypeFinder$DataType;LTypeFinder$Node;I)LTypeFinder$Type;"⟩, 5) := ⟨⟨by decide +kernel, by decide +kernel⟩, List.mem_of_getElem? (i := 464) (by decide +kernel), List.mem_of_getElem? (i := 1314) (by decide +kernel), List.mem_of_getElem? (i := 1315) (by decide +kernel)⟩
theorem lw_p38 : lw_okq (⟨"TypeFinder$Known", "dataTypeOf", "(LTypeFinder$Node;LTypeFinder$DataType;LTypeFinder$Node;I)LTypeFinder$Type;"⟩, 5) := ⟨⟨by decide +kernel, by decide +kernel⟩, List.mem_of_getElem? (i := 464) (by decide +kernel), List.mem_of_getElem? (i := 1336) (by decide +kernel), List.mem_of_getElem? (i := 1337) (by decide +kernel)⟩
theorem lw_p39 : lw_okq (⟨"TypeFinder$Checker", "defined", "(LTypeFinder$Node;I)LTypeFinder$Name;"⟩, 6) := ⟨⟨by decide +kernel, by decide +kernel⟩, List.mem_of_getElem? (i := 698) (by decide +kernel), List.mem_of_getElem? (i := 1362) (by decide +kernel), List.mem_of_getElem? (i := 1363) (by decide +kernel)⟩
theorem lw_p40 : lw_okq (⟨"TypeFinder$Checker", "functionType", "(LTypeFinder$Node;I)LTypeFinder$Type;"⟩, 6) := ⟨⟨by decide +kernel, by decide +kernel⟩, List.mem_of_getElem? (i := 698) (by decide +kernel), List.mem_of_getElem? (i := 1366) (by decide +kernel), List.mem_of_getElem? (i := 1367) (by decide +kernel)⟩
theorem lw_p41 : lw_okq (⟨"TypeFinder$Checker", "addWord", "(J)LTypeFinder$Type;"⟩, 6) := ⟨⟨by decide +kernel, by decide +kernel⟩, List.mem_of_getElem? (i := 698) (by decide +kernel), List.mem_of_getElem? (i := 1371) (by decide +kernel), List.mem_of_getElem? (i := 1372) (by decide +kernel)⟩
theorem lw_p42 : lw_okq (⟨"TypeFinder$Checker", "found", "(LTypeFinder$Node;I)LTypeFinder$Type;"⟩, 6) := ⟨⟨by decide +kernel, by decide +kernel⟩, List.mem_of_getElem? (i := 698) (by decide +kernel), List.mem_of_getElem? (i := 1382) (by decide +kernel), List.mem_of_getElem? (i := 1383) (by decide +kernel)⟩
theorem lw_p43 : lw_okq (⟨"TypeFinder$Checker", "nameOf", "(J)LTypeFinder$Name;"⟩, 6) := ⟨⟨by decide +kernel, by decide +kernel⟩, List.mem_of_getElem? (i := 698) (by decide +kernel), List.mem_of_getElem? (i := 1388) (by decide +kernel), List.mem_of_getElem? (i := 1389) (by decide +kernel)⟩
theorem lw_p44 : lw_okq (⟨"TypeFinder$Checker", "use", "(LTypeFinder$Name;)LTypeFinder$Type;"⟩, 6) := ⟨⟨by decide +kernel, by decide +kernel⟩, List.mem_of_getElem? (i := 698) (by decide +kernel), List.mem_of_getElem? (i := 1397) (by decide +kernel), List.mem_of_getElem? (i := 1398) (by decide +kernel)⟩
theorem lw_p45 : lw_okq (⟨"TypeFinder$Checker", "checked", "(LTypeFinder$Type;)LTypeFinder$Type;"⟩, 6) := ⟨⟨by decide +kernel, by decide +kernel⟩, List.mem_of_getElem? (i := 698) (by decide +kernel), List.mem_of_getElem? (i := 1401) (by decide +kernel), List.mem_of_getElem? (i := 1402) (by decide +kernel)⟩
theorem lw_p46 : lw_okq (⟨"java/util/ArrayList", "fastRemove", "([Ljava/lang/Object;I)V"⟩, 3) := ⟨⟨by decide +kernel, by decide +kernel⟩, List.mem_of_getElem? (i := 518) (by decide +kernel), List.mem_of_getElem? (i := 1420) (by decide +kernel), List.mem_of_getElem? (i := 1421) (by decide +kernel)⟩
theorem lw_p47 : lw_okq (⟨"TypeFinder$Unifier", "copied", "(LTypeFinder$Type;I)LTypeFinder$Type;"⟩, 4) := ⟨⟨by decide +kernel, by decide +kernel⟩, List.mem_of_getElem? (i := 704) (by decide +kernel), List.mem_of_getElem? (i := 1430) (by decide +kernel), List.mem_of_getElem? (i := 1431) (by decide +kernel)⟩
def lw_privs_3 : List (MethodName × Nat) := [(⟨"TypeFinder$Parser", "refuseWithoutLevel", "(J)V"⟩, 4), (⟨"TypeFinder$Parser", "placeAhead", "(LTypeFinder$Node;LTypeFinder$Node;LTypeFinder$Node;)LTypeFinder$Node;"⟩, 4), (⟨"TypeFinder$Parser", "bindsAhead", "(JJ)Z"⟩, 4), (⟨"TypeFinder$Known", "dataType", "(J)LTypeFinder$DataType;"⟩, 5), (⟨"TypeFinder$Known", "addConstructor", "(LTypeFinder$DataType;LTypeFinder$Node;LTypeFinder$Node;)V"⟩, 5), (⟨"TypeFinder$Known", "typeOf", "(LTypeFinder$Node;LTypeFinder$DataType;LTypeFinder$Node;I)LTypeFinder$Type;"⟩, 5), (⟨"TypeFinder$Known", "dataTypeOf", "(LTypeFinder$Node;LTypeFinder$DataType;LTypeFinder$Node;I)LTypeFinder$Type;"⟩, 5), (⟨"TypeFinder$Checker", "defined", "(LTypeFinder$Node;I)LTypeFinder$Name;"⟩, 6), (⟨"TypeFinder$Checker", "functionType", "(LTypeFinder$Node;I)LTypeFinder$Type;"⟩, 6), (⟨"TypeFinder$Checker", "addWord", "(J)LTypeFinder$Type;"⟩, 6), (⟨"TypeFinder$Checker", "found", "(LTypeFinder$Node;I)LTypeFinder$Type;"⟩, 6), (⟨"TypeFinder$Checker", "nameOf", "(J)LTypeFinder$Name;"⟩, 6), (⟨"TypeFinder$Checker", "use", "(LTypeFinder$Name;)LTypeFinder$Type;"⟩, 6), (⟨"TypeFinder$Checker", "checked", "(LTypeFinder$Type;)LTypeFinder$Type;"⟩, 6), (⟨"java/util/ArrayList", "fastRemove", "([Ljava/lang/Object;I)V"⟩, 3), (⟨"TypeFinder$Unifier", "copied", "(LTypeFinder$Type;I)LTypeFinder$Type;"⟩, 4)]
theorem lw_r3 : ∀ q ∈ lw_privs_3, lw_okq q := List.forall_mem_cons.mpr ⟨lw_p32, List.forall_mem_cons.mpr ⟨lw_p33, List.forall_mem_cons.mpr ⟨lw_p34, List.forall_mem_cons.mpr ⟨lw_p35, List.forall_mem_cons.mpr ⟨lw_p36, List.forall_mem_cons.mpr ⟨lw_p37, List.forall_mem_cons.mpr ⟨lw_p38, List.forall_mem_cons.mpr ⟨lw_p39, List.forall_mem_cons.mpr ⟨lw_p40, List.forall_mem_cons.mpr ⟨lw_p41, List.forall_mem_cons.mpr ⟨lw_p42, List.forall_mem_cons.mpr ⟨lw_p43, List.forall_mem_cons.mpr ⟨lw_p44, List.forall_mem_cons.mpr ⟨lw_p45, List.forall_mem_cons.mpr ⟨lw_p46, List.forall_mem_cons.mpr ⟨lw_p47, fun _ h => absurd h List.not_mem_nil⟩⟩⟩⟩⟩⟩⟩⟩⟩⟩⟩⟩⟩⟩⟩⟩
theorem lw_p48 : lw_okq (⟨"TypeFinder$Checker", "application", "(LTypeFinder$Node;I)LTypeFinder$Type;"⟩, 6) := ⟨⟨by decide +kernel, by decide +kernel⟩, List.mem_of_getElem? (i := 698) (by decide +kernel), List.mem_of_getElem? (i := 1438) (by decide +kernel), List.mem_of_getElem? (i := 1439) (by decide +kernel)⟩
theorem lw_p49 : lw_okq (⟨"TypeFinder$Unifier", "pushPair", "(LTypeFinder$Type;LTypeFinder$Type;)V"⟩, 4) := ⟨⟨by decide +kernel, by decide +kernel⟩, List.mem_of_getElem? (i := 704) (by decide +kernel), List.mem_of_getElem? (i := 1447) (by decide +kernel), List.mem_of_getElem? (i := 1448) (by decide +kernel)⟩
theorem lw_p50 : lw_okq (⟨"TypeFinder$Unifier", "linkOpen", "()V"⟩, 4) := ⟨⟨by decide +kernel, by decide +kernel⟩, List.mem_of_getElem? (i := 704) (by decide +kernel), List.mem_of_getElem? (i := 1455) (by decide +kernel), List.mem_of_getElem? (i := 1456) (by decide +kernel)⟩
theorem lw_p51 : lw_okq (⟨"TypeFinder$Unifier", "bind", "(LTypeFinder$Type;LTypeFinder$Type;)V"⟩, 4) := ⟨⟨by decide +kernel, by decide +kernel⟩, List.mem_of_getElem? (i := 704) (by decide +kernel), List.mem_of_getElem? (i := 1459) (by decide +kernel), List.mem_of_getElem? (i := 1460) (by decide +kernel)⟩
theorem lw_p52 : lw_okq (⟨"TypeFinder$Unifier", "startWalk", "(LTypeFinder$Type;)V"⟩, 4) := ⟨⟨by decide +kernel, by decide +kernel⟩, List.mem_of_getElem? (i := 704) (by decide +kernel), List.mem_of_getElem? (i := 1463) (by decide +kernel), List.mem_of_getElem? (i := 1464) (by decide +kernel)⟩
theorem lw_p53 : lw_okq (⟨"TypeFinder$Unifier", "nextPart", "()LTypeFinder$Type;"⟩, 4) := ⟨⟨by decide +kernel, by decide +kernel⟩, List.mem_of_getElem? (i := 704) (by decide +kernel), List.mem_of_getElem? (i := 1467) (by decide +kernel), List.mem_of_getElem? (i := 1468) (by decide +kernel)⟩
theorem lw_p54 : lw_okq (⟨"TypeFinder$Unifier", "openParts", "(LTypeFinder$Type;LTypeFinder$Type;)V"⟩, 4) := ⟨⟨by decide +kernel, by decide +kernel⟩, List.mem_of_getElem? (i := 704) (by decide +kernel), List.mem_of_getElem? (i := 1474) (by decide +kernel), List.mem_of_getElem? (i := 1475) (by decide +kernel)⟩
theorem lw_p55 : lw_okq (⟨"TypeFinder$Checker", "chain", "(LTypeFinder$Node;I)LTypeFinder$Type;"⟩, 6) := ⟨⟨by decide +kernel, by decide +kernel⟩, List.mem_of_getElem? (i := 698) (by decide +kernel), List.mem_of_getElem? (i := 1478) (by decide +kernel), List.mem_of_getElem? (i := 1479) (by decide +kernel)⟩
theorem lw_p56 : lw_okq (⟨"TypeFinder$Checker", "takeOperand", "()LTypeFinder$Type;"⟩, 6) := ⟨⟨by decide +kernel, by decide +kernel⟩, List.mem_of_getElem? (i := 698) (by decide +kernel), List.mem_of_getElem? (i := 1482) (by decide +kernel), List.mem_of_getElem? (i := 1483) (by decide +kernel)⟩
theorem lw_p57 : lw_okq (⟨"TypeFinder$Checker", "operatorUse", "(J)LTypeFinder$Type;"⟩, 6) := ⟨⟨by decide +kernel, by decide +kernel⟩, List.mem_of_getElem? (i := 698) (by decide +kernel), List.mem_of_getElem? (i := 1488) (by decide +kernel), List.mem_of_getElem? (i := 1489) (by decide +kernel)⟩
theorem lw_p58 : lw_okq (⟨"TypeFinder$Checker", "pair", "(LTypeFinder$Node;I)LTypeFinder$Type;"⟩, 6) := ⟨⟨by decide +kernel, by decide +kernel⟩, List.mem_of_getElem? (i := 698) (by decide +kernel), List.mem_of_getElem? (i := 1492) (by decide +kernel), List.mem_of_getElem? (i := 1493) (by decide +kernel)⟩
theorem lw_p59 : lw_okq (⟨"TypeFinder$Checker", "function", "(LTypeFinder$Node;I)LTypeFinder$Type;"⟩, 6) := ⟨⟨by decide +kernel, by decide +kernel⟩, List.mem_of_getElem? (i := 698) (by decide +kernel), List.mem_of_getElem? (i := 1497) (by decide +kernel), List.mem_of_getElem? (i := 1498) (by decide +kernel)⟩
theorem lw_p60 : lw_okq (⟨"TypeFinder$Checker", "leave", "(I)V"⟩, 6) := ⟨⟨by decide +kernel, by decide +kernel⟩, List.mem_of_getElem? (i := 698) (by decide +kernel), List.mem_of_getElem? (i := 1501) (by decide +kernel), List.mem_of_getElem? (i := 1502) (by decide +kernel)⟩
theorem lw_p61 : lw_okq (⟨"TypeFinder$Checker", "let", "(LTypeFinder$Node;I)LTypeFinder$Type;"⟩, 6) := ⟨⟨by decide +kernel, by decide +kernel⟩, List.mem_of_getElem? (i := 698) (by decide +kernel), List.mem_of_getElem? (i := 1505) (by decide +kernel), List.mem_of_getElem? (i := 1506) (by decide +kernel)⟩
theorem lw_p62 : lw_okq (⟨"TypeFinder$Checker", "choice", "(LTypeFinder$Node;I)LTypeFinder$Type;"⟩, 6) := ⟨⟨by decide +kernel, by decide +kernel⟩, List.mem_of_getElem? (i := 698) (by decide +kernel), List.mem_of_getElem? (i := 1509) (by decide +kernel), List.mem_of_getElem? (i := 1510) (by decide +kernel)⟩
theorem lw_p63 : lw_okq (⟨"TypeFinder$Checker", "cases", "(LTypeFinder$Node;I)LTypeFinder$Type;"⟩, 6) := ⟨⟨by decide +kernel, by decide +kernel⟩, List.mem_of_getElem? (i := 698) (by decide +kernel), List.mem_of_getElem? (i := 1513) (by decide +kernel), List.mem_of_getElem? (i := 1514) (by decide +kernel)⟩
def lw_privs_4 : List (MethodName × Nat) := [(⟨"TypeFinder$Checker", "application", "(LTypeFinder$Node;I)LTypeFinder$Type;"⟩, 6), (⟨"TypeFinder$Unifier", "pushPair", "(LTypeFinder$Type;LTypeFinder$Type;)V"⟩, 4), (⟨"TypeFinder$Unifier", "linkOpen", "()V"⟩, 4), (⟨"TypeFinder$Unifier", "bind", "(LTypeFinder$Type;LTypeFinder$Type;)V"⟩, 4), (⟨"TypeFinder$Unifier", "startWalk", "(LTypeFinder$Type;)V"⟩, 4), (⟨"TypeFinder$Unifier", "nextPart", "()LTypeFinder$Type;"⟩, 4), (⟨"TypeFinder$Unifier", "openParts", "(LTypeFinder$Type;LTypeFinder$Type;)V"⟩, 4), (⟨"TypeFinder$Checker", "chain", "(LTypeFinder$Node;I)LTypeFinder$Type;"⟩, 6), (⟨"TypeFinder$Checker", "takeOperand", "()LTypeFinder$Type;"⟩, 6), (⟨"TypeFinder$Checker", "operatorUse", "(J)LTypeFinder$Type;"⟩, 6), (⟨"TypeFinder$Checker", "pair", "(LTypeFinder$Node;I)LTypeFinder$Type;"⟩, 6), (⟨"TypeFinder$Checker", "function", "(LTypeFinder$Node;I)LTypeFinder$Type;"⟩, 6), (⟨"TypeFinder$Checker", "leave", "(I)V"⟩, 6), (⟨"TypeFinder$Checker", "let", "(LTypeFinder$Node;I)LTypeFinder$Type;"⟩, 6), (⟨"TypeFinder$Checker", "choice", "(LTypeFinder$Node;I)LTypeFinder$Type;"⟩, 6), (⟨"TypeFinder$Checker", "cases", "(LTypeFinder$Node;I)LTypeFinder$Type;"⟩, 6)]
theorem lw_r4 : ∀ q ∈ lw_privs_4, lw_okq q := List.forall_mem_cons.mpr ⟨lw_p48, List.forall_mem_cons.mpr ⟨lw_p49, List.forall_mem_cons.mpr ⟨lw_p50, List.forall_mem_cons.mpr ⟨lw_p51, List.forall_mem_cons.mpr ⟨lw_p52, List.forall_mem_cons.mpr ⟨lw_p53, List.forall_mem_cons.mpr ⟨lw_p54, List.forall_mem_cons.mpr ⟨lw_p55, List.forall_mem_cons.mpr ⟨lw_p56, List.forall_mem_cons.mpr ⟨lw_p57, List.forall_mem_cons.mpr ⟨lw_p58, List.forall_mem_cons.mpr ⟨lw_p59, List.forall_mem_cons.mpr ⟨lw_p60, List.forall_mem_cons.mpr ⟨lw_p61, List.forall_mem_cons.mpr ⟨lw_p62, List.forall_mem_cons.mpr ⟨lw_p63, fun _ h => absurd h List.not_mem_nil⟩⟩⟩⟩⟩⟩⟩⟩⟩⟩⟩⟩⟩⟩⟩⟩
theorem lw_p64 : lw_okq (⟨"TypeFinder$Checker", "constructorPattern", "(LTypeFinder$Node;)LTypeFinder$Type;"⟩, 6) := ⟨⟨by decide +kernel, by decide +kernel⟩, List.mem_of_getElem? (i := 698) (by decide +kernel), List.mem_of_getElem? (i := 1517) (by decide +kernel), List.mem_of_getElem? (i := 1518) (by decide +kernel)⟩
theorem lw_p65 : lw_okq (⟨"TypeFinder$Checker", "plainPattern", "(LTypeFinder$Node;)LTypeFinder$Type;"⟩, 6) := ⟨⟨by decide +kernel, by decide +kernel⟩, List.mem_of_getElem? (i := 698) (by decide +kernel), List.mem_of_getElem? (i := 1521) (by decide +kernel), List.mem_of_getElem? (i := 1522) (by decide +kernel)⟩
theorem lw_p66 : lw_okq (⟨"TypeFinder$Checker", "judge", "(LTypeFinder$Node;)V"⟩, 6) := ⟨⟨by decide +kernel, by decide +kernel⟩, List.mem_of_getElem? (i := 698) (by decide +kernel), List.mem_of_getElem? (i := 1525) (by decide +kernel), List.mem_of_getElem? (i := 1526) (by decide +kernel)⟩
theorem lw_p67 : lw_okq (⟨"TypeFinder$Checker", "constructorsBeside", "(J)I"⟩, 6) := ⟨⟨by decide +kernel, by decide +kernel⟩, List.mem_of_getElem? (i := 698) (by decide +kernel), List.mem_of_getElem? (i := 1532) (by decide +kernel), List.mem_of_getElem? (i := 1533) (by decide +kernel)⟩
theorem lw_p68 : lw_okq (⟨"TypeFinder", "keepMatches", "()V"⟩, 9) := ⟨⟨by decide +kernel, by decide +kernel⟩, List.mem_of_getElem? (i := 40) (by decide +kernel), List.mem_of_getElem? (i := 1560) (by decide +kernel), List.mem_of_getElem? (i := 1561) (by decide +kernel)⟩
theorem lw_p69 : lw_okq (⟨"TypeFinderModel", "setName", "(IIIIII)V"⟩, 80) := ⟨⟨by decide +kernel, by decide +kernel⟩, List.mem_of_getElem? (i := 1579) (by decide +kernel), List.mem_of_getElem? (i := 1585) (by decide +kernel), List.mem_of_getElem? (i := 1586) (by decide +kernel)⟩
theorem lw_p70 : lw_okq (⟨"TypeFinderModel", "begin", "()Z"⟩, 80) := ⟨⟨by decide +kernel, by decide +kernel⟩, List.mem_of_getElem? (i := 1579) (by decide +kernel), List.mem_of_getElem? (i := 1854) (by decide +kernel), List.mem_of_getElem? (i := 1855) (by decide +kernel)⟩
theorem lw_p71 : lw_okq (⟨"TypeFinderModel", "split", "()V"⟩, 80) := ⟨⟨by decide +kernel, by decide +kernel⟩, List.mem_of_getElem? (i := 1579) (by decide +kernel), List.mem_of_getElem? (i := 1858) (by decide +kernel), List.mem_of_getElem? (i := 1859) (by decide +kernel)⟩
theorem lw_p72 : lw_okq (⟨"TypeFinderModel", "letters", "(I)I"⟩, 80) := ⟨⟨by decide +kernel, by decide +kernel⟩, List.mem_of_getElem? (i := 1579) (by decide +kernel), List.mem_of_getElem? (i := 1868) (by decide +kernel), List.mem_of_getElem? (i := 1869) (by decide +kernel)⟩
theorem lw_p73 : lw_okq (⟨"TypeFinderModel", "charAt", "(I)I"⟩, 80) := ⟨⟨by decide +kernel, by decide +kernel⟩, List.mem_of_getElem? (i := 1579) (by decide +kernel), List.mem_of_getElem? (i := 1872) (by decide +kernel), List.mem_of_getElem? (i := 1873) (by decide +kernel)⟩
theorem lw_p74 : lw_okq (⟨"TypeFinderModel", "put", "(II)V"⟩, 80) := ⟨⟨by decide +kernel, by decide +kernel⟩, List.mem_of_getElem? (i := 1579) (by decide +kernel), List.mem_of_getElem? (i := 1889) (by decide +kernel), List.mem_of_getElem? (i := 1890) (by decide +kernel)⟩
theorem lw_p75 : lw_okq (⟨"TypeFinderModel", "digits", "(I)I"⟩, 80) := ⟨⟨by decide +kernel, by decide +kernel⟩, List.mem_of_getElem? (i := 1579) (by decide +kernel), List.mem_of_getElem? (i := 1896) (by decide +kernel), List.mem_of_getElem? (i := 1897) (by decide +kernel)⟩
theorem lw_p76 : lw_okq (⟨"TypeFinderModel", "expression", "()V"⟩, 80) := ⟨⟨by decide +kernel, by decide +kernel⟩, List.mem_of_getElem? (i := 1579) (by decide +kernel), List.mem_of_getElem? (i := 1906) (by decide +kernel), List.mem_of_getElem? (i := 1907) (by decide +kernel)⟩
theorem lw_p77 : lw_okq (⟨"TypeFinderModel", "beginExpression", "()V"⟩, 80) := ⟨⟨by decide +kernel, by decide +kernel⟩, List.mem_of_getElem? (i := 1579) (by decide +kernel), List.mem_of_getElem? (i := 1910) (by decide +kernel), List.mem_of_getElem? (i := 1911) (by decide +kernel)⟩
theorem lw_p78 : lw_okq (⟨"TypeFinderModel", "peek", "()I"⟩, 80) := ⟨⟨by decide +kernel, by decide +kernel⟩, List.mem_of_getElem? (i := 1579) (by decide +kernel), List.mem_of_getElem? (i := 1914) (by decide +kernel), List.mem_of_getElem? (i := 1915) (by decide +kernel)⟩
theorem lw_p79 : lw_okq (⟨"TypeFinderModel", "word", "()I"⟩, 80) := ⟨⟨by decide +kernel, by decide +kernel⟩, List.mem_of_getElem? (i := 1579) (by decide +kernel), List.mem_of_getElem? (i := 1918) (by decide +kernel), List.mem_of_getElem? (i := 1919) (by decide +kernel)⟩
def lw_privs_5 : List (MethodName × Nat) := [(⟨"TypeFinder$Checker", "constructorPattern", "(LTypeFinder$Node;)LTypeFinder$Type;"⟩, 6), (⟨"TypeFinder$Checker", "plainPattern", "(LTypeFinder$Node;)LTypeFinder$Type;"⟩, 6), (⟨"TypeFinder$Checker", "judge", "(LTypeFinder$Node;)V"⟩, 6), (⟨"TypeFinder$Checker", "constructorsBeside", "(J)I"⟩, 6), (⟨"TypeFinder", "keepMatches", "()V"⟩, 9), (⟨"TypeFinderModel", "setName", "(IIIIII)V"⟩, 80), (⟨"TypeFinderModel", "begin", "()Z"⟩, 80), (⟨"TypeFinderModel", "split", "()V"⟩, 80), (⟨"TypeFinderModel", "letters", "(I)I"⟩, 80), (⟨"TypeFinderModel", "charAt", "(I)I"⟩, 80), (⟨"TypeFinderModel", "put", "(II)V"⟩, 80), (⟨"TypeFinderModel", "digits", "(I)I"⟩, 80), (⟨"TypeFinderModel", "expression", "()V"⟩, 80), (⟨"TypeFinderModel", "beginExpression", "()V"⟩, 80), (⟨"TypeFinderModel", "peek", "()I"⟩, 80), (⟨"TypeFinderModel", "word", "()I"⟩, 80)]
theorem lw_r5 : ∀ q ∈ lw_privs_5, lw_okq q := List.forall_mem_cons.mpr ⟨lw_p64, List.forall_mem_cons.mpr ⟨lw_p65, List.forall_mem_cons.mpr ⟨lw_p66, List.forall_mem_cons.mpr ⟨lw_p67, List.forall_mem_cons.mpr ⟨lw_p68, List.forall_mem_cons.mpr ⟨lw_p69, List.forall_mem_cons.mpr ⟨lw_p70, List.forall_mem_cons.mpr ⟨lw_p71, List.forall_mem_cons.mpr ⟨lw_p72, List.forall_mem_cons.mpr ⟨lw_p73, List.forall_mem_cons.mpr ⟨lw_p74, List.forall_mem_cons.mpr ⟨lw_p75, List.forall_mem_cons.mpr ⟨lw_p76, List.forall_mem_cons.mpr ⟨lw_p77, List.forall_mem_cons.mpr ⟨lw_p78, List.forall_mem_cons.mpr ⟨lw_p79, fun _ h => absurd h List.not_mem_nil⟩⟩⟩⟩⟩⟩⟩⟩⟩⟩⟩⟩⟩⟩⟩⟩
theorem lw_p80 : lw_okq (⟨"TypeFinderModel", "expect", "(I)V"⟩, 80) := ⟨⟨by decide +kernel, by decide +kernel⟩, List.mem_of_getElem? (i := 1579) (by decide +kernel), List.mem_of_getElem? (i := 1922) (by decide +kernel), List.mem_of_getElem? (i := 1923) (by decide +kernel)⟩
theorem lw_p81 : lw_okq (⟨"TypeFinderModel", "emit", "(III)V"⟩, 80) := ⟨⟨by decide +kernel, by decide +kernel⟩, List.mem_of_getElem? (i := 1579) (by decide +kernel), List.mem_of_getElem? (i := 1926) (by decide +kernel), List.mem_of_getElem? (i := 1927) (by decide +kernel)⟩
theorem lw_p82 : lw_okq (⟨"TypeFinderModel", "enter", "(III)V"⟩, 80) := ⟨⟨by decide +kernel, by decide +kernel⟩, List.mem_of_getElem? (i := 1579) (by decide +kernel), List.mem_of_getElem? (i := 1930) (by decide +kernel), List.mem_of_getElem? (i := 1931) (by decide +kernel)⟩
theorem lw_p83 : lw_okq (⟨"TypeFinderModel", "within", "(I)V"⟩, 80) := ⟨⟨by decide +kernel, by decide +kernel⟩, List.mem_of_getElem? (i := 1579) (by decide +kernel), List.mem_of_getElem? (i := 1934) (by decide +kernel), List.mem_of_getElem? (i := 1935) (by decide +kernel)⟩
theorem lw_p84 : lw_okq (⟨"TypeFinderModel", "head", "()V"⟩, 80) := ⟨⟨by decide +kernel, by decide +kernel⟩, List.mem_of_getElem? (i := 1579) (by decide +kernel), List.mem_of_getElem? (i := 1938) (by decide +kernel), List.mem_of_getElem? (i := 1939) (by decide +kernel)⟩
theorem lw_p85 : lw_okq (⟨"TypeFinderModel", "chain", "()V"⟩, 80) := ⟨⟨by decide +kernel, by decide +kernel⟩, List.mem_of_getElem? (i := 1579) (by decide +kernel), List.mem_of_getElem? (i := 1942) (by decide +kernel), List.mem_of_getElem? (i := 1943) (by decide +kernel)⟩
theorem lw_p86 : lw_okq (⟨"TypeFinderModel", "atom", "(I)Z"⟩, 80) := ⟨⟨by decide +kernel, by decide +kernel⟩, List.mem_of_getElem? (i := 1579) (by decide +kernel), List.mem_of_getElem? (i := 1946) (by decide +kernel), List.mem_of_getElem? (i := 1947) (by decide +kernel)⟩
theorem lw_p87 : lw_okq (⟨"TypeFinderModel", "atomEnds", "(I)V"⟩, 80) := ⟨⟨by decide +kernel, by decide +kernel⟩, List.mem_of_getElem? (i := 1579) (by decide +kernel), List.mem_of_getElem? (i := 1950) (by decide +kernel), List.mem_of_getElem? (i := 1951) (by decide +kernel)⟩
theorem lw_p88 : lw_okq (⟨"TypeFinderModel", "operator", "(II)V"⟩, 80) := ⟨⟨by decide +kernel, by decide +kernel⟩, List.mem_of_getElem? (i := 1579) (by decide +kernel), List.mem_of_getElem? (i := 1954) (by decide +kernel), List.mem_of_getElem? (i := 1955) (by decide +kernel)⟩
theorem lw_p89 : lw_okq (⟨"TypeFinderModel", "operates", "()V"⟩, 80) := ⟨⟨by decide +kernel, by decide +kernel⟩, List.mem_of_getElem? (i := 1579) (by decide +kernel), List.mem_of_getElem? (i := 1958) (by decide +kernel), List.mem_of_getElem? (i := 1959) (by decide +kernel)⟩
theorem lw_p90 : lw_okq (⟨"TypeFinderModel", "leave", "(I)V"⟩, 80) := ⟨⟨by decide +kernel, by decide +kernel⟩, List.mem_of_getElem? (i := 1579) (by decide +kernel), List.mem_of_getElem? (i := 1962) (by decide +kernel), List.mem_of_getElem? (i := 1963) (by decide +kernel)⟩
theorem lw_p91 : lw_okq (⟨"TypeFinderModel", "goOn", "()V"⟩, 80) := ⟨⟨by decide +kernel, by decide +kernel⟩, List.mem_of_getElem? (i := 1579) (by decide +kernel), List.mem_of_getElem? (i := 1966) (by decide +kernel), List.mem_of_getElem? (i := 1967) (by decide +kernel)⟩
theorem lw_p92 : lw_okq (⟨"TypeFinderModel", "becomes", "(I)V"⟩, 80) := ⟨⟨by decide +kernel, by decide +kernel⟩, List.mem_of_getElem? (i := 1579) (by decide +kernel), List.mem_of_getElem? (i := 1970) (by decide +kernel), List.mem_of_getElem? (i := 1971) (by decide +kernel)⟩
theorem lw_p93 : lw_okq (⟨"TypeFinderModel", "pattern", "(I)V"⟩, 80) := ⟨⟨by decide +kernel, by decide +kernel⟩, List.mem_of_getElem? (i := 1579) (by decide +kernel), List.mem_of_getElem? (i := 1974) (by decide +kernel), List.mem_of_getElem? (i := 1975) (by decide +kernel)⟩
theorem lw_p94 : lw_okq (⟨"TypeFinderModel", "name", "()I"⟩, 80) := ⟨⟨by decide +kernel, by decide +kernel⟩, List.mem_of_getElem? (i := 1579) (by decide +kernel), List.mem_of_getElem? (i := 1978) (by decide +kernel), List.mem_of_getElem? (i := 1979) (by decide +kernel)⟩
theorem lw_p95 : lw_okq (⟨"TypeFinderModel", "countWords", "(II)V"⟩, 80) := ⟨⟨by decide +kernel, by decide +kernel⟩, List.mem_of_getElem? (i := 1579) (by decide +kernel), List.mem_of_getElem? (i := 1982) (by decide +kernel), List.mem_of_getElem? (i := 1983) (by decide +kernel)⟩
def lw_privs_6 : List (MethodName × Nat) := [(⟨"TypeFinderModel", "expect", "(I)V"⟩, 80), (⟨"TypeFinderModel", "emit", "(III)V"⟩, 80), (⟨"TypeFinderModel", "enter", "(III)V"⟩, 80), (⟨"TypeFinderModel", "within", "(I)V"⟩, 80), (⟨"TypeFinderModel", "head", "()V"⟩, 80), (⟨"TypeFinderModel", "chain", "()V"⟩, 80), (⟨"TypeFinderModel", "atom", "(I)Z"⟩, 80), (⟨"TypeFinderModel", "atomEnds", "(I)V"⟩, 80), (⟨"TypeFinderModel", "operator", "(II)V"⟩, 80), (⟨"TypeFinderModel", "operates", "()V"⟩, 80), (⟨"TypeFinderModel", "leave", "(I)V"⟩, 80), (⟨"TypeFinderModel", "goOn", "()V"⟩, 80), (⟨"TypeFinderModel", "becomes", "(I)V"⟩, 80), (⟨"TypeFinderModel", "pattern", "(I)V"⟩, 80), (⟨"TypeFinderModel", "name", "()I"⟩, 80), (⟨"TypeFinderModel", "countWords", "(II)V"⟩, 80)]
theorem lw_r6 : ∀ q ∈ lw_privs_6, lw_okq q := List.forall_mem_cons.mpr ⟨lw_p80, List.forall_mem_cons.mpr ⟨lw_p81, List.forall_mem_cons.mpr ⟨lw_p82, List.forall_mem_cons.mpr ⟨lw_p83, List.forall_mem_cons.mpr ⟨lw_p84, List.forall_mem_cons.mpr ⟨lw_p85, List.forall_mem_cons.mpr ⟨lw_p86, List.forall_mem_cons.mpr ⟨lw_p87, List.forall_mem_cons.mpr ⟨lw_p88, List.forall_mem_cons.mpr ⟨lw_p89, List.forall_mem_cons.mpr ⟨lw_p90, List.forall_mem_cons.mpr ⟨lw_p91, List.forall_mem_cons.mpr ⟨lw_p92, List.forall_mem_cons.mpr ⟨lw_p93, List.forall_mem_cons.mpr ⟨lw_p94, List.forall_mem_cons.mpr ⟨lw_p95, fun _ h => absurd h List.not_mem_nil⟩⟩⟩⟩⟩⟩⟩⟩⟩⟩⟩⟩⟩⟩⟩⟩
theorem lw_p96 : lw_okq (⟨"TypeFinderModel", "matchEnds", "(I)V"⟩, 80) := ⟨⟨by decide +kernel, by decide +kernel⟩, List.mem_of_getElem? (i := 1579) (by decide +kernel), List.mem_of_getElem? (i := 1986) (by decide +kernel), List.mem_of_getElem? (i := 1987) (by decide +kernel)⟩
theorem lw_p97 : lw_okq (⟨"TypeFinderModel", "bracketEnds", "(I)V"⟩, 80) := ⟨⟨by decide +kernel, by decide +kernel⟩, List.mem_of_getElem? (i := 1579) (by decide +kernel), List.mem_of_getElem? (i := 1990) (by decide +kernel), List.mem_of_getElem? (i := 1991) (by decide +kernel)⟩
theorem lw_p98 : lw_okq (⟨"TypeFinderModel", "refuse", "(I)I"⟩, 80) := ⟨⟨by decide +kernel, by decide +kernel⟩, List.mem_of_getElem? (i := 1579) (by decide +kernel), List.mem_of_getElem? (i := 1994) (by decide +kernel), List.mem_of_getElem? (i := 1995) (by decide +kernel)⟩
theorem lw_p99 : lw_okq (⟨"TypeFinderModel", "run", "()V"⟩, 80) := ⟨⟨by decide +kernel, by decide +kernel⟩, List.mem_of_getElem? (i := 1579) (by decide +kernel), List.mem_of_getElem? (i := 1998) (by decide +kernel), List.mem_of_getElem? (i := 1999) (by decide +kernel)⟩
theorem lw_p100 : lw_okq (⟨"TypeFinderModel", "perform", "(I)V"⟩, 80) := ⟨⟨by decide +kernel, by decide +kernel⟩, List.mem_of_getElem? (i := 1579) (by decide +kernel), List.mem_of_getElem? (i := 2002) (by decide +kernel), List.mem_of_getElem? (i := 2003) (by decide +kernel)⟩
theorem lw_p101 : lw_okq (⟨"TypeFinderModel", "node", "(III)I"⟩, 80) := ⟨⟨by decide +kernel, by decide +kernel⟩, List.mem_of_getElem? (i := 1579) (by decide +kernel), List.mem_of_getElem? (i := 2006) (by decide +kernel), List.mem_of_getElem? (i := 2007) (by decide +kernel)⟩
theorem lw_p102 : lw_okq (⟨"TypeFinderModel", "part", "(I)V"⟩, 80) := ⟨⟨by decide +kernel, by decide +kernel⟩, List.mem_of_getElem? (i := 1579) (by decide +kernel), List.mem_of_getElem? (i := 2010) (by decide +kernel), List.mem_of_getElem? (i := 2011) (by decide +kernel)⟩
theorem lw_p103 : lw_okq (⟨"TypeFinderModel", "push", "(I)V"⟩, 80) := ⟨⟨by decide +kernel, by decide +kernel⟩, List.mem_of_getElem? (i := 1579) (by decide +kernel), List.mem_of_getElem? (i := 2014) (by decide +kernel), List.mem_of_getElem? (i := 2015) (by decide +kernel)⟩
theorem lw_p104 : lw_okq (⟨"TypeFinderModel", "sized", "(I)V"⟩, 80) := ⟨⟨by decide +kernel, by decide +kernel⟩, List.mem_of_getElem? (i := 1579) (by decide +kernel), List.mem_of_getElem? (i := 2018) (by decide +kernel), List.mem_of_getElem? (i := 2019) (by decide +kernel)⟩
theorem lw_p105 : lw_okq (⟨"TypeFinderModel", "sizeOf", "(I)I"⟩, 80) := ⟨⟨by decide +kernel, by decide +kernel⟩, List.mem_of_getElem? (i := 1579) (by decide +kernel), List.mem_of_getElem? (i := 2022) (by decide +kernel), List.mem_of_getElem? (i := 2023) (by decide +kernel)⟩
theorem lw_p106 : lw_okq (⟨"TypeFinderModel", "pileUp", "(I)V"⟩, 80) := ⟨⟨by decide +kernel, by decide +kernel⟩, List.mem_of_getElem? (i := 1579) (by decide +kernel), List.mem_of_getElem? (i := 2026) (by decide +kernel), List.mem_of_getElem? (i := 2027) (by decide +kernel)⟩
theorem lw_p107 : lw_okq (⟨"TypeFinderModel", "whole", "(I)I"⟩, 80) := ⟨⟨by decide +kernel, by decide +kernel⟩, List.mem_of_getElem? (i := 1579) (by decide +kernel), List.mem_of_getElem? (i := 2030) (by decide +kernel), List.mem_of_getElem? (i := 2031) (by decide +kernel)⟩
theorem lw_p108 : lw_okq (⟨"TypeFinderModel", "pileParts", "(I)V"⟩, 80) := ⟨⟨by decide +kernel, by decide +kernel⟩, List.mem_of_getElem? (i := 1579) (by decide +kernel), List.mem_of_getElem? (i := 2034) (by decide +kernel), List.mem_of_getElem? (i := 2035) (by decide +kernel)⟩
theorem lw_p109 : lw_okq (⟨"TypeFinderModel", "fail", "(I)V"⟩, 80) := ⟨⟨by decide +kernel, by decide +kernel⟩, List.mem_of_getElem? (i := 1579) (by decide +kernel), List.mem_of_getElem? (i := 2038) (by decide +kernel), List.mem_of_getElem? (i := 2039) (by decide +kernel)⟩
theorem lw_p110 : lw_okq (⟨"TypeFinderModel", "useOf", "(I)I"⟩, 80) := ⟨⟨by decide +kernel, by decide +kernel⟩, List.mem_of_getElem? (i := 1579) (by decide +kernel), List.mem_of_getElem? (i := 2042) (by decide +kernel), List.mem_of_getElem? (i := 2043) (by decide +kernel)⟩
theorem lw_p111 : lw_okq (⟨"TypeFinderModel", "use", "(I)I"⟩, 80) := ⟨⟨by decide +kernel, by decide +kernel⟩, List.mem_of_getElem? (i := 1579) (by decide +kernel), List.mem_of_getElem? (i := 2046) (by decide +kernel), List.mem_of_getElem? (i := 2047) (by decide +kernel)⟩
def lw_privs_7 : List (MethodName × Nat) := [(⟨"TypeFinderModel", "matchEnds", "(I)V"⟩, 80), (⟨"TypeFinderModel", "bracketEnds", "(I)V"⟩, 80), (⟨"TypeFinderModel", "refuse", "(I)I"⟩, 80), (⟨"TypeFinderModel", "run", "()V"⟩, 80), (⟨"TypeFinderModel", "perform", "(I)V"⟩, 80), (⟨"TypeFinderModel", "node", "(III)I"⟩, 80), (⟨"TypeFinderModel", "part", "(I)V"⟩, 80), (⟨"TypeFinderModel", "push", "(I)V"⟩, 80), (⟨"TypeFinderModel", "sized", "(I)V"⟩, 80), (⟨"TypeFinderModel", "sizeOf", "(I)I"⟩, 80), (⟨"TypeFinderModel", "pileUp", "(I)V"⟩, 80), (⟨"TypeFinderModel", "whole", "(I)I"⟩, 80), (⟨"TypeFinderModel", "pileParts", "(I)V"⟩, 80), (⟨"TypeFinderModel", "fail", "(I)V"⟩, 80), (⟨"TypeFinderModel", "useOf", "(I)I"⟩, 80), (⟨"TypeFinderModel", "use", "(I)I"⟩, 80)]
theorem lw_r7 : ∀ q ∈ lw_privs_7, lw_okq q := List.forall_mem_cons.mpr ⟨lw_p96, List.forall_mem_cons.mpr ⟨lw_p97, List.forall_mem_cons.mpr ⟨lw_p98, List.forall_mem_cons.mpr ⟨lw_p99, List.forall_mem_cons.mpr ⟨lw_p100, List.forall_mem_cons.mpr ⟨lw_p101, List.forall_mem_cons.mpr ⟨lw_p102, List.forall_mem_cons.mpr ⟨lw_p103, List.forall_mem_cons.mpr ⟨lw_p104, List.forall_mem_cons.mpr ⟨lw_p105, List.forall_mem_cons.mpr ⟨lw_p106, List.forall_mem_cons.mpr ⟨lw_p107, List.forall_mem_cons.mpr ⟨lw_p108, List.forall_mem_cons.mpr ⟨lw_p109, List.forall_mem_cons.mpr ⟨lw_p110, List.forall_mem_cons.mpr ⟨lw_p111, fun _ h => absurd h List.not_mem_nil⟩⟩⟩⟩⟩⟩⟩⟩⟩⟩⟩⟩⟩⟩⟩⟩
theorem lw_p112 : lw_okq (⟨"TypeFinderModel", "loose", "(I)Z"⟩, 80) := ⟨⟨by decide +kernel, by decide +kernel⟩, List.mem_of_getElem? (i := 1579) (by decide +kernel), List.mem_of_getElem? (i := 2050) (by decide +kernel), List.mem_of_getElem? (i := 2051) (by decide +kernel)⟩
theorem lw_p113 : lw_okq (⟨"TypeFinderModel", "fresh", "(Z)I"⟩, 80) := ⟨⟨by decide +kernel, by decide +kernel⟩, List.mem_of_getElem? (i := 1579) (by decide +kernel), List.mem_of_getElem? (i := 2054) (by decide +kernel), List.mem_of_getElem? (i := 2055) (by decide +kernel)⟩
theorem lw_p114 : lw_okq (⟨"TypeFinderModel", "pileNeeded", "(I)V"⟩, 80) := ⟨⟨by decide +kernel, by decide +kernel⟩, List.mem_of_getElem? (i := 1579) (by decide +kernel), List.mem_of_getElem? (i := 2058) (by decide +kernel), List.mem_of_getElem? (i := 2059) (by decide +kernel)⟩
theorem lw_p115 : lw_okq (⟨"TypeFinderModel", "copy", "(I)I"⟩, 80) := ⟨⟨by decide +kernel, by decide +kernel⟩, List.mem_of_getElem? (i := 1579) (by decide +kernel), List.mem_of_getElem? (i := 2062) (by decide +kernel), List.mem_of_getElem? (i := 2063) (by decide +kernel)⟩
theorem lw_p116 : lw_okq (⟨"TypeFinderModel", "build", "(ZII)I"⟩, 80) := ⟨⟨by decide +kernel, by decide +kernel⟩, List.mem_of_getElem? (i := 1579) (by decide +kernel), List.mem_of_getElem? (i := 2066) (by decide +kernel), List.mem_of_getElem? (i := 2067) (by decide +kernel)⟩
theorem lw_p117 : lw_okq (⟨"TypeFinderModel", "constructorOf", "(I)I"⟩, 80) := ⟨⟨by decide +kernel, by decide +kernel⟩, List.mem_of_getElem? (i := 1579) (by decide +kernel), List.mem_of_getElem? (i := 2070) (by decide +kernel), List.mem_of_getElem? (i := 2071) (by decide +kernel)⟩
theorem lw_p118 : lw_okq (⟨"TypeFinderModel", "useOfConstructor", "(I)I"⟩, 80) := ⟨⟨by decide +kernel, by decide +kernel⟩, List.mem_of_getElem? (i := 1579) (by decide +kernel), List.mem_of_getElem? (i := 2074) (by decide +kernel), List.mem_of_getElem? (i := 2075) (by decide +kernel)⟩
theorem lw_p119 : lw_okq (⟨"TypeFinderModel", "pop", "()I"⟩, 80) := ⟨⟨by decide +kernel, by decide +kernel⟩, List.mem_of_getElem? (i := 1579) (by decide +kernel), List.mem_of_getElem? (i := 2078) (by decide +kernel), List.mem_of_getElem? (i := 2079) (by decide +kernel)⟩
theorem lw_p120 : lw_okq (⟨"TypeFinderModel", "apply", "(II)V"⟩, 80) := ⟨⟨by decide +kernel, by decide +kernel⟩, List.mem_of_getElem? (i := 1579) (by decide +kernel), List.mem_of_getElem? (i := 2082) (by decide +kernel), List.mem_of_getElem? (i := 2083) (by decide +kernel)⟩
theorem lw_p121 : lw_okq (⟨"TypeFinderModel", "unify", "(II)V"⟩, 80) := ⟨⟨by decide +kernel, by decide +kernel⟩, List.mem_of_getElem? (i := 1579) (by decide +kernel), List.mem_of_getElem? (i := 2086) (by decide +kernel), List.mem_of_getElem? (i := 2087) (by decide +kernel)⟩
theorem lw_p122 : lw_okq (⟨"TypeFinderModel", "point", "(II)V"⟩, 80) := ⟨⟨by decide +kernel, by decide +kernel⟩, List.mem_of_getElem? (i := 1579) (by decide +kernel), List.mem_of_getElem? (i := 2090) (by decide +kernel), List.mem_of_getElem? (i := 2091) (by decide +kernel)⟩
theorem lw_p123 : lw_okq (⟨"TypeFinderModel", "stands", "(II)Z"⟩, 80) := ⟨⟨by decide +kernel, by decide +kernel⟩, List.mem_of_getElem? (i := 1579) (by decide +kernel), List.mem_of_getElem? (i := 2094) (by decide +kernel), List.mem_of_getElem? (i := 2095) (by decide +kernel)⟩
theorem lw_p124 : lw_okq (⟨"TypeFinderModel", "look", "(I)V"⟩, 80) := ⟨⟨by decide +kernel, by decide +kernel⟩, List.mem_of_getElem? (i := 1579) (by decide +kernel), List.mem_of_getElem? (i := 2098) (by decide +kernel), List.mem_of_getElem? (i := 2099) (by decide +kernel)⟩
theorem lw_p125 : lw_okq (⟨"TypeFinderModel", "unseen", "()I"⟩, 80) := ⟨⟨by decide +kernel, by decide +kernel⟩, List.mem_of_getElem? (i := 1579) (by decide +kernel), List.mem_of_getElem? (i := 2102) (by decide +kernel), List.mem_of_getElem? (i := 2103) (by decide +kernel)⟩
theorem lw_p126 : lw_okq (⟨"TypeFinderModel", "compare", "(I)Z"⟩, 80) := ⟨⟨by decide +kernel, by decide +kernel⟩, List.mem_of_getElem? (i := 1579) (by decide +kernel), List.mem_of_getElem? (i := 2106) (by decide +kernel), List.mem_of_getElem? (i := 2107) (by decide +kernel)⟩
theorem lw_p127 : lw_okq (⟨"TypeFinderModel", "operate", "(I)V"⟩, 80) := ⟨⟨by decide +kernel, by decide +kernel⟩, List.mem_of_getElem? (i := 1579) (by decide +kernel), List.mem_of_getElem? (i := 2110) (by decide +kernel), List.mem_of_getElem? (i := 2111) (by decide +kernel)⟩
def lw_privs_8 : List (MethodName × Nat) := [(⟨"TypeFinderModel", "loose", "(I)Z"⟩, 80), (⟨"TypeFinderModel", "fresh", "(Z)I"⟩, 80), (⟨"TypeFinderModel", "pileNeeded", "(I)V"⟩, 80), (⟨"TypeFinderModel", "copy", "(I)I"⟩, 80), (⟨"TypeFinderModel", "build", "(ZII)I"⟩, 80), (⟨"TypeFinderModel", "constructorOf", "(I)I"⟩, 80), (⟨"TypeFinderModel", "useOfConstructor", "(I)I"⟩, 80), (⟨"TypeFinderModel", "pop", "()I"⟩, 80), (⟨"TypeFinderModel", "apply", "(II)V"⟩, 80), (⟨"TypeFinderModel", "unify", "(II)V"⟩, 80), (⟨"TypeFinderModel", "point", "(II)V"⟩, 80), (⟨"TypeFinderModel", "stands", "(II)Z"⟩, 80), (⟨"TypeFinderModel", "look", "(I)V"⟩, 80), (⟨"TypeFinderModel", "unseen", "()I"⟩, 80), (⟨"TypeFinderModel", "compare", "(I)Z"⟩, 80), (⟨"TypeFinderModel", "operate", "(I)V"⟩, 80)]
theorem lw_r8 : ∀ q ∈ lw_privs_8, lw_okq q := List.forall_mem_cons.mpr ⟨lw_p112, List.forall_mem_cons.mpr ⟨lw_p113, List.forall_mem_cons.mpr ⟨lw_p114, List.forall_mem_cons.mpr ⟨lw_p115, List.forall_mem_cons.mpr ⟨lw_p116, List.forall_mem_cons.mpr ⟨lw_p117, List.forall_mem_cons.mpr ⟨lw_p118, List.forall_mem_cons.mpr ⟨lw_p119, List.forall_mem_cons.mpr ⟨lw_p120, List.forall_mem_cons.mpr ⟨lw_p121, List.forall_mem_cons.mpr ⟨lw_p122, List.forall_mem_cons.mpr ⟨lw_p123, List.forall_mem_cons.mpr ⟨lw_p124, List.forall_mem_cons.mpr ⟨lw_p125, List.forall_mem_cons.mpr ⟨lw_p126, List.forall_mem_cons.mpr ⟨lw_p127, fun _ h => absurd h List.not_mem_nil⟩⟩⟩⟩⟩⟩⟩⟩⟩⟩⟩⟩⟩⟩⟩⟩
theorem lw_p128 : lw_okq (⟨"TypeFinderModel", "bind", "(II)V"⟩, 80) := ⟨⟨by decide +kernel, by decide +kernel⟩, List.mem_of_getElem? (i := 1579) (by decide +kernel), List.mem_of_getElem? (i := 2114) (by decide +kernel), List.mem_of_getElem? (i := 2115) (by decide +kernel)⟩
theorem lw_p129 : lw_okq (⟨"TypeFinderModel", "generalise", "(II)V"⟩, 80) := ⟨⟨by decide +kernel, by decide +kernel⟩, List.mem_of_getElem? (i := 1579) (by decide +kernel), List.mem_of_getElem? (i := 2118) (by decide +kernel), List.mem_of_getElem? (i := 2119) (by decide +kernel)⟩
theorem lw_p130 : lw_okq (⟨"TypeFinderModel", "define", "(I)V"⟩, 80) := ⟨⟨by decide +kernel, by decide +kernel⟩, List.mem_of_getElem? (i := 1579) (by decide +kernel), List.mem_of_getElem? (i := 2122) (by decide +kernel), List.mem_of_getElem? (i := 2123) (by decide +kernel)⟩
theorem lw_p131 : lw_okq (⟨"TypeFinderModel", "choose", "(II)V"⟩, 80) := ⟨⟨by decide +kernel, by decide +kernel⟩, List.mem_of_getElem? (i := 1579) (by decide +kernel), List.mem_of_getElem? (i := 2126) (by decide +kernel), List.mem_of_getElem? (i := 2127) (by decide +kernel)⟩
theorem lw_p132 : lw_okq (⟨"TypeFinderModel", "endCase", "()V"⟩, 80) := ⟨⟨by decide +kernel, by decide +kernel⟩, List.mem_of_getElem? (i := 1579) (by decide +kernel), List.mem_of_getElem? (i := 2130) (by decide +kernel), List.mem_of_getElem? (i := 2131) (by decide +kernel)⟩
theorem lw_p133 : lw_okq (⟨"TypeFinderModel", "allConstructors", "()Z"⟩, 80) := ⟨⟨by decide +kernel, by decide +kernel⟩, List.mem_of_getElem? (i := 1579) (by decide +kernel), List.mem_of_getElem? (i := 2134) (by decide +kernel), List.mem_of_getElem? (i := 2135) (by decide +kernel)⟩
theorem lw_p134 : lw_okq (⟨"TypeFinderModel", "all", "(I)Z"⟩, 80) := ⟨⟨by decide +kernel, by decide +kernel⟩, List.mem_of_getElem? (i := 1579) (by decide +kernel), List.mem_of_getElem? (i := 2138) (by decide +kernel), List.mem_of_getElem? (i := 2139) (by decide +kernel)⟩
theorem lw_p135 : lw_okq (⟨"TypeFinderModel", "pattern", "(II)V"⟩, 80) := ⟨⟨by decide +kernel, by decide +kernel⟩, List.mem_of_getElem? (i := 1579) (by decide +kernel), List.mem_of_getElem? (i := 2142) (by decide +kernel), List.mem_of_getElem? (i := 2143) (by decide +kernel)⟩
theorem lw_p136 : lw_okq (⟨"TypeFinderModel", "variableFor", "(I)I"⟩, 80) := ⟨⟨by decide +kernel, by decide +kernel⟩, List.mem_of_getElem? (i := 1579) (by decide +kernel), List.mem_of_getElem? (i := 2146) (by decide +kernel), List.mem_of_getElem? (i := 2147) (by decide +kernel)⟩
theorem lw_p137 : lw_okq (⟨"TypeFinderModel", "needless", "()Z"⟩, 80) := ⟨⟨by decide +kernel, by decide +kernel⟩, List.mem_of_getElem? (i := 1579) (by decide +kernel), List.mem_of_getElem? (i := 2150) (by decide +kernel), List.mem_of_getElem? (i := 2151) (by decide +kernel)⟩
theorem lw_p138 : lw_okq (⟨"TypeFinderModel", "write", "(I)V"⟩, 80) := ⟨⟨by decide +kernel, by decide +kernel⟩, List.mem_of_getElem? (i := 1579) (by decide +kernel), List.mem_of_getElem? (i := 2154) (by decide +kernel), List.mem_of_getElem? (i := 2155) (by decide +kernel)⟩
theorem lw_p139 : lw_okq (⟨"TypeFinderModel", "later", "(I)V"⟩, 80) := ⟨⟨by decide +kernel, by decide +kernel⟩, List.mem_of_getElem? (i := 1579) (by decide +kernel), List.mem_of_getElem? (i := 2158) (by decide +kernel), List.mem_of_getElem? (i := 2159) (by decide +kernel)⟩
theorem lw_p140 : lw_okq (⟨"TypeFinderModel", "show", "(I)V"⟩, 80) := ⟨⟨by decide +kernel, by decide +kernel⟩, List.mem_of_getElem? (i := 1579) (by decide +kernel), List.mem_of_getElem? (i := 2162) (by decide +kernel), List.mem_of_getElem? (i := 2163) (by decide +kernel)⟩
theorem lw_p141 : lw_okq (⟨"TypeFinderModel", "writeParts", "(II)V"⟩, 80) := ⟨⟨by decide +kernel, by decide +kernel⟩, List.mem_of_getElem? (i := 1579) (by decide +kernel), List.mem_of_getElem? (i := 2166) (by decide +kernel), List.mem_of_getElem? (i := 2167) (by decide +kernel)⟩
theorem lw_p142 : lw_okq (⟨"TypeFinderModel", "showWord", "(I)V"⟩, 80) := ⟨⟨by decide +kernel, by decide +kernel⟩, List.mem_of_getElem? (i := 1579) (by decide +kernel), List.mem_of_getElem? (i := 2170) (by decide +kernel), List.mem_of_getElem? (i := 2171) (by decide +kernel)⟩
theorem lw_p143 : lw_okq (⟨"TypeFinderModel", "declareData", "()I"⟩, 80) := ⟨⟨by decide +kernel, by decide +kernel⟩, List.mem_of_getElem? (i := 1579) (by decide +kernel), List.mem_of_getElem? (i := 2178) (by decide +kernel), List.mem_of_getElem? (i := 2179) (by decide +kernel)⟩
def lw_privs_9 : List (MethodName × Nat) := [(⟨"TypeFinderModel", "bind", "(II)V"⟩, 80), (⟨"TypeFinderModel", "generalise", "(II)V"⟩, 80), (⟨"TypeFinderModel", "define", "(I)V"⟩, 80), (⟨"TypeFinderModel", "choose", "(II)V"⟩, 80), (⟨"TypeFinderModel", "endCase", "()V"⟩, 80), (⟨"TypeFinderModel", "allConstructors", "()Z"⟩, 80), (⟨"TypeFinderModel", "all", "(I)Z"⟩, 80), (⟨"TypeFinderModel", "pattern", "(II)V"⟩, 80), (⟨"TypeFinderModel", "variableFor", "(I)I"⟩, 80), (⟨"TypeFinderModel", "needless", "()Z"⟩, 80), (⟨"TypeFinderModel", "write", "(I)V"⟩, 80), (⟨"TypeFinderModel", "later", "(I)V"⟩, 80), (⟨"TypeFinderModel", "show", "(I)V"⟩, 80), (⟨"TypeFinderModel", "writeParts", "(II)V"⟩, 80), (⟨"TypeFinderModel", "showWord", "(I)V"⟩, 80), (⟨"TypeFinderModel", "declareData", "()I"⟩, 80)]
theorem lw_r9 : ∀ q ∈ lw_privs_9, lw_okq q := List.forall_mem_cons.mpr ⟨lw_p128, List.forall_mem_cons.mpr ⟨lw_p129, List.forall_mem_cons.mpr ⟨lw_p130, List.forall_mem_cons.mpr ⟨lw_p131, List.forall_mem_cons.mpr ⟨lw_p132, List.forall_mem_cons.mpr ⟨lw_p133, List.forall_mem_cons.mpr ⟨lw_p134, List.forall_mem_cons.mpr ⟨lw_p135, List.forall_mem_cons.mpr ⟨lw_p136, List.forall_mem_cons.mpr ⟨lw_p137, List.forall_mem_cons.mpr ⟨lw_p138, List.forall_mem_cons.mpr ⟨lw_p139, List.forall_mem_cons.mpr ⟨lw_p140, List.forall_mem_cons.mpr ⟨lw_p141, List.forall_mem_cons.mpr ⟨lw_p142, List.forall_mem_cons.mpr ⟨lw_p143, fun _ h => absurd h List.not_mem_nil⟩⟩⟩⟩⟩⟩⟩⟩⟩⟩⟩⟩⟩⟩⟩⟩
theorem lw_p144 : lw_okq (⟨"TypeFinderModel", "readData", "()V"⟩, 80) := ⟨⟨by decide +kernel, by decide +kernel⟩, List.mem_of_getElem? (i := 1579) (by decide +kernel), List.mem_of_getElem? (i := 2182) (by decide +kernel), List.mem_of_getElem? (i := 2183) (by decide +kernel)⟩
theorem lw_p145 : lw_okq (⟨"TypeFinderModel", "typeAtom", "(I)Z"⟩, 80) := ⟨⟨by decide +kernel, by decide +kernel⟩, List.mem_of_getElem? (i := 1579) (by decide +kernel), List.mem_of_getElem? (i := 2186) (by decide +kernel), List.mem_of_getElem? (i := 2187) (by decide +kernel)⟩
theorem lw_p146 : lw_okq (⟨"TypeFinderModel", "readAtom", "()V"⟩, 80) := ⟨⟨by decide +kernel, by decide +kernel⟩, List.mem_of_getElem? (i := 1579) (by decide +kernel), List.mem_of_getElem? (i := 2190) (by decide +kernel), List.mem_of_getElem? (i := 2191) (by decide +kernel)⟩
theorem lw_p147 : lw_okq (⟨"TypeFinderModel", "beginAtom", "()V"⟩, 80) := ⟨⟨by decide +kernel, by decide +kernel⟩, List.mem_of_getElem? (i := 1579) (by decide +kernel), List.mem_of_getElem? (i := 2194) (by decide +kernel), List.mem_of_getElem? (i := 2195) (by decide +kernel)⟩
theorem lw_p148 : lw_okq (⟨"TypeFinderModel", "openType", "(II)V"⟩, 80) := ⟨⟨by decide +kernel, by decide +kernel⟩, List.mem_of_getElem? (i := 1579) (by decide +kernel), List.mem_of_getElem? (i := 2198) (by decide +kernel), List.mem_of_getElem? (i := 2199) (by decide +kernel)⟩
theorem lw_p149 : lw_okq (⟨"TypeFinderModel", "addPiece", "(III)V"⟩, 80) := ⟨⟨by decide +kernel, by decide +kernel⟩, List.mem_of_getElem? (i := 1579) (by decide +kernel), List.mem_of_getElem? (i := 2202) (by decide +kernel), List.mem_of_getElem? (i := 2203) (by decide +kernel)⟩
theorem lw_p150 : lw_okq (⟨"TypeFinderModel", "beginType", "()V"⟩, 80) := ⟨⟨by decide +kernel, by decide +kernel⟩, List.mem_of_getElem? (i := 1579) (by decide +kernel), List.mem_of_getElem? (i := 2206) (by decide +kernel), List.mem_of_getElem? (i := 2207) (by decide +kernel)⟩
theorem lw_p151 : lw_okq (⟨"TypeFinderModel", "typeGoesOn", "()V"⟩, 80) := ⟨⟨by decide +kernel, by decide +kernel⟩, List.mem_of_getElem? (i := 1579) (by decide +kernel), List.mem_of_getElem? (i := 2210) (by decide +kernel), List.mem_of_getElem? (i := 2211) (by decide +kernel)⟩
theorem lw_p152 : lw_okq (⟨"TypeFinderModel", "settle", "(I)V"⟩, 80) := ⟨⟨by decide +kernel, by decide +kernel⟩, List.mem_of_getElem? (i := 1579) (by decide +kernel), List.mem_of_getElem? (i := 2214) (by decide +kernel), List.mem_of_getElem? (i := 2215) (by decide +kernel)⟩
theorem lw_p153 : lw_okq (⟨"TypeFinderModel", "dataOf", "(II)I"⟩, 80) := ⟨⟨by decide +kernel, by decide +kernel⟩, List.mem_of_getElem? (i := 1579) (by decide +kernel), List.mem_of_getElem? (i := 2218) (by decide +kernel), List.mem_of_getElem? (i := 2219) (by decide +kernel)⟩
theorem lw_p154 : lw_okq (⟨"TypeFinderModel", "comparable", "(I)Z"⟩, 80) := ⟨⟨by decide +kernel, by decide +kernel⟩, List.mem_of_getElem? (i := 1579) (by decide +kernel), List.mem_of_getElem? (i := 2222) (by decide +kernel), List.mem_of_getElem? (i := 2223) (by decide +kernel)⟩
theorem lw_p155 : lw_okq (⟨"TypeFinderModel", "addConstructor", "(I)V"⟩, 80) := ⟨⟨by decide +kernel, by decide +kernel⟩, List.mem_of_getElem? (i := 1579) (by decide +kernel), List.mem_of_getElem? (i := 2226) (by decide +kernel), List.mem_of_getElem? (i := 2227) (by decide +kernel)⟩
theorem lw_p156 : lw_okq (⟨"TypeFinderModel", "keep", "(IZI)I"⟩, 80) := ⟨⟨by decide +kernel, by decide +kernel⟩, List.mem_of_getElem? (i := 1579) (by decide +kernel), List.mem_of_getElem? (i := 2230) (by decide +kernel), List.mem_of_getElem? (i := 2231) (by decide +kernel)⟩
theorem lw_p157 : lw_okq (⟨"TypeFinderModel", "heading", "()I"⟩, 80) := ⟨⟨by decide +kernel, by decide +kernel⟩, List.mem_of_getElem? (i := 1579) (by decide +kernel), List.mem_of_getElem? (i := 2234) (by decide +kernel), List.mem_of_getElem? (i := 2235) (by decide +kernel)⟩
theorem lw_p158 : lw_okq (⟨"TypeFinderModel", "unsettled", "(I)Z"⟩, 80) := ⟨⟨by decide +kernel, by decide +kernel⟩, List.mem_of_getElem? (i := 1579) (by decide +kernel), List.mem_of_getElem? (i := 2238) (by decide +kernel), List.mem_of_getElem? (i := 2239) (by decide +kernel)⟩
def lw_privs_10 : List (MethodName × Nat) := [(⟨"TypeFinderModel", "readData", "()V"⟩, 80), (⟨"TypeFinderModel", "typeAtom", "(I)Z"⟩, 80), (⟨"TypeFinderModel", "readAtom", "()V"⟩, 80), (⟨"TypeFinderModel", "beginAtom", "()V"⟩, 80), (⟨"TypeFinderModel", "openType", "(II)V"⟩, 80), (⟨"TypeFinderModel", "addPiece", "(III)V"⟩, 80), (⟨"TypeFinderModel", "beginType", "()V"⟩, 80), (⟨"TypeFinderModel", "typeGoesOn", "()V"⟩, 80), (⟨"TypeFinderModel", "settle", "(I)V"⟩, 80), (⟨"TypeFinderModel", "dataOf", "(II)I"⟩, 80), (⟨"TypeFinderModel", "comparable", "(I)Z"⟩, 80), (⟨"TypeFinderModel", "addConstructor", "(I)V"⟩, 80), (⟨"TypeFinderModel", "keep", "(IZI)I"⟩, 80), (⟨"TypeFinderModel", "heading", "()I"⟩, 80), (⟨"TypeFinderModel", "unsettled", "(I)Z"⟩, 80)]
theorem lw_r10 : ∀ q ∈ lw_privs_10, lw_okq q := List.forall_mem_cons.mpr ⟨lw_p144, List.forall_mem_cons.mpr ⟨lw_p145, List.forall_mem_cons.mpr ⟨lw_p146, List.forall_mem_cons.mpr ⟨lw_p147, List.forall_mem_cons.mpr ⟨lw_p148, List.forall_mem_cons.mpr ⟨lw_p149, List.forall_mem_cons.mpr ⟨lw_p150, List.forall_mem_cons.mpr ⟨lw_p151, List.forall_mem_cons.mpr ⟨lw_p152, List.forall_mem_cons.mpr ⟨lw_p153, List.forall_mem_cons.mpr ⟨lw_p154, List.forall_mem_cons.mpr ⟨lw_p155, List.forall_mem_cons.mpr ⟨lw_p156, List.forall_mem_cons.mpr ⟨lw_p157, List.forall_mem_cons.mpr ⟨lw_p158, fun _ h => absurd h List.not_mem_nil⟩⟩⟩⟩⟩⟩⟩⟩⟩⟩⟩⟩⟩⟩⟩
def lw_privs : List (MethodName × Nat) := lw_privs_1 ++ (lw_privs_2 ++ (lw_privs_3 ++ (lw_privs_4 ++ (lw_privs_5 ++ (lw_privs_6 ++ (lw_privs_7 ++ (lw_privs_8 ++ (lw_privs_9 ++ (lw_privs_10)))))))))
def lw_tbl : List Cond := k2_sels lw_privs ++ tables_1
theorem lw_privs_ok : ∀ q ∈ lw_privs, lw_okq q := by
  show ∀ q ∈ lw_privs_1 ++ (lw_privs_2 ++ (lw_privs_3 ++ (lw_privs_4 ++ (lw_privs_5 ++ (lw_privs_6 ++ (lw_privs_7 ++ (lw_privs_8 ++ (lw_privs_9 ++ (lw_privs_10))))))))), lw_okq q
  exact List.forall_mem_append.mpr ⟨lw_r1, List.forall_mem_append.mpr ⟨lw_r2, List.forall_mem_append.mpr ⟨lw_r3, List.forall_mem_append.mpr ⟨lw_r4, List.forall_mem_append.mpr ⟨lw_r5, List.forall_mem_append.mpr ⟨lw_r6, List.forall_mem_append.mpr ⟨lw_r7, List.forall_mem_append.mpr ⟨lw_r8, List.forall_mem_append.mpr ⟨lw_r9, lw_r10⟩⟩⟩⟩⟩⟩⟩⟩⟩
end
section
def R_0 : String := "TypeFinder"
def F_0 : u_T := fun k => match k with
  | 0 => ("TypeFinder", "draft", "[C", true)
  | 1 => ("TypeFinder", "parser", "LTypeFinder$Parser;", true)
  | 2 => ("TypeFinder", "known", "LTypeFinder$Known;", true)
  | 3 => ("TypeFinder", "checker", "LTypeFinder$Checker;", true)
  | 4 => ("TypeFinder", "writer", "LTypeFinder$Writer;", true)
  | 5 => ("TypeFinder", "length", "I", false)
  | 6 => ("TypeFinder", "refusals", "I", false)
  | 7 => ("TypeFinder", "openCases", "I", false)
  | _ => ("TypeFinder", "idleAlternatives", "I", false)
def t_0 : Nat → FieldType := fun k => match k with
  | 0 => .array .char
  | 1 => .object "TypeFinder$Parser"
  | 2 => .object "TypeFinder$Known"
  | 3 => .object "TypeFinder$Checker"
  | 4 => .object "TypeFinder$Writer"
  | 5 => .int
  | 6 => .int
  | 7 => .int
  | _ => .int
def R_1 : String := "TypeFinder$Parser"
def F_1 : u_T := fun k => match k with
  | 0 => ("TypeFinder$Parser", "tokens", "LTypeFinder$Tokens;", true)
  | 1 => ("TypeFinder$Parser", "dataParser", "LTypeFinder$DataParser;", true)
  | 2 => ("TypeFinder$Parser", "levels", "[I", true)
  | _ => ("TypeFinder$Parser", "rights", "[Z", true)
def t_1 : Nat → FieldType := fun k => match k with
  | 0 => .object "TypeFinder$Tokens"
  | 1 => .object "TypeFinder$DataParser"
  | 2 => .array .int
  | _ => .array .boolean
def R_2 : String := "TypeFinder$Tokens"
def F_2 : u_T := fun k => match k with
  | 0 => ("TypeFinder$Tokens", "kinds", "[I", true)
  | 1 => ("TypeFinder$Tokens", "values", "[J", true)
  | 2 => ("TypeFinder$Tokens", "keywords", "[J", true)
  | 3 => ("TypeFinder$Tokens", "size", "I", false)
  | _ => ("TypeFinder$Tokens", "at", "I", false)
def t_2 : Nat → FieldType := fun k => match k with
  | 0 => .array .int
  | 1 => .array .long
  | 2 => .array .long
  | 3 => .int
  | _ => .int
def R_3 : String := "TypeFinder$DataParser"
def F_3 : u_T := fun k => match k with
  | _ => ("TypeFinder$DataParser", "tokens", "LTypeFinder$Tokens;", true)
def t_3 : Nat → FieldType := fun k => match k with
  | _ => .object "TypeFinder$Tokens"
def R_4 : String := "TypeFinder$Known"
def F_4 : u_T := fun k => match k with
  | 0 => ("TypeFinder$Known", "integer", "LTypeFinder$Type;", true)
  | 1 => ("TypeFinder$Known", "truth", "LTypeFinder$Type;", true)
  | 2 => ("TypeFinder$Known", "dataTypes", "Ljava/util/ArrayList;", true)
  | 3 => ("TypeFinder$Known", "names", "Ljava/util/ArrayList;", true)
  | _ => ("TypeFinder$Known", "firstNames", "I", true)
def t_4 : Nat → FieldType := fun k => match k with
  | 0 => .object "TypeFinder$Type"
  | 1 => .object "TypeFinder$Type"
  | 2 => .object "java/util/ArrayList"
  | 3 => .object "java/util/ArrayList"
  | _ => .int
def R_5 : String := "TypeFinder$Type"
def F_5 : u_T := fun k => match k with
  | 0 => ("TypeFinder$Type", "kind", "I", false)
  | 1 => ("TypeFinder$Type", "comparable", "Z", false)
  | 2 => ("TypeFinder$Type", "data", "LTypeFinder$DataType;", true)
  | 3 => ("TypeFinder$Type", "left", "LTypeFinder$Type;", true)
  | 4 => ("TypeFinder$Type", "right", "LTypeFinder$Type;", true)
  | 5 => ("TypeFinder$Type", "link", "LTypeFinder$Type;", false)
  | 6 => ("TypeFinder$Type", "twin", "LTypeFinder$Type;", false)
  | _ => ("TypeFinder$Type", "mark", "I", false)
def t_5 : Nat → FieldType := fun k => match k with
  | 0 => .int
  | 1 => .boolean
  | 2 => .object "TypeFinder$DataType"
  | 3 => .object "TypeFinder$Type"
  | 4 => .object "TypeFinder$Type"
  | 5 => .object "TypeFinder$Type"
  | 6 => .object "TypeFinder$Type"
  | _ => .int
def R_6 : String := "TypeFinder$DataType"
def F_6 : u_T := fun k => match k with
  | 0 => ("TypeFinder$DataType", "word", "J", true)
  | 1 => ("TypeFinder$DataType", "parameters", "I", true)
  | 2 => ("TypeFinder$DataType", "constructors", "Ljava/util/ArrayList;", true)
  | 3 => ("TypeFinder$DataType", "whole", "LTypeFinder$Type;", false)
  | _ => ("TypeFinder$DataType", "allows", "Z", false)
def t_6 : Nat → FieldType := fun k => match k with
  | 0 => .long
  | 1 => .int
  | 2 => .object "java/util/ArrayList"
  | 3 => .object "TypeFinder$Type"
  | _ => .boolean
def R_7 : String := "TypeFinder$Name"
def F_7 : u_T := fun k => match k with
  | 0 => ("TypeFinder$Name", "word", "J", true)
  | 1 => ("TypeFinder$Name", "type", "LTypeFinder$Type;", true)
  | _ => ("TypeFinder$Name", "general", "Z", true)
def t_7 : Nat → FieldType := fun k => match k with
  | 0 => .long
  | 1 => .object "TypeFinder$Type"
  | _ => .boolean
def R_8 : String := "TypeFinder$Checker"
def F_8 : u_T := fun k => match k with
  | 0 => ("TypeFinder$Checker", "known", "LTypeFinder$Known;", true)
  | 1 => ("TypeFinder$Checker", "unifier", "LTypeFinder$Unifier;", true)
  | 2 => ("TypeFinder$Checker", "scope", "Ljava/util/ArrayList;", true)
  | 3 => ("TypeFinder$Checker", "operands", "Ljava/util/ArrayList;", true)
  | 4 => ("TypeFinder$Checker", "openCases", "I", false)
  | _ => ("TypeFinder$Checker", "idleAlternatives", "I", false)
def t_8 : Nat → FieldType := fun k => match k with
  | 0 => .object "TypeFinder$Known"
  | 1 => .object "TypeFinder$Unifier"
  | 2 => .object "java/util/ArrayList"
  | 3 => .object "java/util/ArrayList"
  | 4 => .int
  | _ => .int
def R_9 : String := "TypeFinder$Unifier"
def F_9 : u_T := fun k => match k with
  | 0 => ("TypeFinder$Unifier", "todo", "Ljava/util/ArrayList;", true)
  | 1 => ("TypeFinder$Unifier", "open", "Ljava/util/ArrayList;", true)
  | 2 => ("TypeFinder$Unifier", "walk", "Ljava/util/ArrayList;", true)
  | _ => ("TypeFinder$Unifier", "walks", "I", false)
def t_9 : Nat → FieldType := fun k => match k with
  | 0 => .object "java/util/ArrayList"
  | 1 => .object "java/util/ArrayList"
  | 2 => .object "java/util/ArrayList"
  | _ => .int
def R_10 : String := "TypeFinder$Writer"
def F_10 : u_T := fun k => match k with
  | 0 => ("TypeFinder$Writer", "text", "Ljava/lang/StringBuilder;", true)
  | _ => ("TypeFinder$Writer", "variables", "Ljava/util/ArrayList;", true)
def t_10 : Nat → FieldType := fun k => match k with
  | 0 => .object "java/lang/StringBuilder"
  | _ => .object "java/util/ArrayList"
def R_11 : String := "java/util/ArrayList"
def F_11 : u_T := fun k => match k with
  | 0 => ("java/util/AbstractList", "modCount", "I", false)
  | 1 => ("java/util/ArrayList", "elementData", "[Ljava/lang/Object;", false)
  | _ => ("java/util/ArrayList", "size", "I", false)
def t_11 : Nat → FieldType := fun k => match k with
  | 0 => .int
  | 1 => .array (.object "java/lang/Object")
  | _ => .int
def R_12 : String := "java/lang/StringBuilder"
def F_12 : u_T := fun k => match k with
  | 0 => ("java/lang/AbstractStringBuilder", "value", "[B", false)
  | 1 => ("java/lang/AbstractStringBuilder", "coder", "B", false)
  | 2 => ("java/lang/AbstractStringBuilder", "maybeLatin1", "Z", false)
  | _ => ("java/lang/AbstractStringBuilder", "count", "I", false)
def t_12 : Nat → FieldType := fun k => match k with
  | 0 => .array .byte
  | 1 => .byte
  | 2 => .boolean
  | _ => .int
def R_13 : String := "java/lang/String"
def F_13 : u_T := fun k => match k with
  | 0 => ("java/lang/String", "value", "[B", true)
  | 1 => ("java/lang/String", "coder", "B", true)
  | 2 => ("java/lang/String", "hash", "I", false)
  | _ => ("java/lang/String", "hashIsZero", "Z", false)
def t_13 : Nat → FieldType := fun k => match k with
  | 0 => .array .byte
  | 1 => .byte
  | 2 => .int
  | _ => .boolean
def R_14 : String := "TypeFinderModel"
def F_14 : u_T := fun k => match k with
  | 0 => ("TypeFinderModel", "code", "I", false)
  | 1 => ("TypeFinderModel", "failures", "I", false)
  | 2 => ("TypeFinderModel", "drafted", "I", false)
  | 3 => ("TypeFinderModel", "draft", "[I", true)
  | 4 => ("TypeFinderModel", "signs", "I", false)
  | 5 => ("TypeFinderModel", "sign", "[I", true)
  | 6 => ("TypeFinderModel", "worth", "[I", true)
  | 7 => ("TypeFinderModel", "level", "[I", true)
  | 8 => ("TypeFinderModel", "rightly", "[Z", true)
  | 9 => ("TypeFinderModel", "names", "I", false)
  | 10 => ("TypeFinderModel", "nameOf", "[I", true)
  | 11 => ("TypeFinderModel", "rowSize", "[I", true)
  | 12 => ("TypeFinderModel", "rows", "[I", true)
  | 13 => ("TypeFinderModel", "datas", "I", false)
  | 14 => ("TypeFinderModel", "dataWord", "[I", true)
  | 15 => ("TypeFinderModel", "parameters", "[I", true)
  | 16 => ("TypeFinderModel", "alternatives", "[I", true)
  | 17 => ("TypeFinderModel", "allows", "[Z", true)
  | 18 => ("TypeFinderModel", "constructors", "I", false)
  | 19 => ("TypeFinderModel", "constructorWord", "[I", true)
  | 20 => ("TypeFinderModel", "constructorData", "[I", true)
  | 21 => ("TypeFinderModel", "constructorParts", "[I", true)
  | 22 => ("TypeFinderModel", "constructorSize", "[I", true)
  | 23 => ("TypeFinderModel", "constructorRow", "[I", true)
  | 24 => ("TypeFinderModel", "at", "I", false)
  | 25 => ("TypeFinderModel", "bad", "Z", false)
  | 26 => ("TypeFinderModel", "steps", "I", false)
  | 27 => ("TypeFinderModel", "step", "[I", true)
  | 28 => ("TypeFinderModel", "one", "[I", true)
  | 29 => ("TypeFinderModel", "two", "[I", true)
  | 30 => ("TypeFinderModel", "opened", "I", false)
  | 31 => ("TypeFinderModel", "open", "[I", true)
  | 32 => ("TypeFinderModel", "deep", "[I", true)
  | 33 => ("TypeFinderModel", "first", "[I", true)
  | 34 => ("TypeFinderModel", "second", "[I", true)
  | 35 => ("TypeFinderModel", "third", "[I", true)
  | 36 => ("TypeFinderModel", "flags", "[I", true)
  | 37 => ("TypeFinderModel", "depth", "I", false)
  | 38 => ("TypeFinderModel", "flag", "I", false)
  | 39 => ("TypeFinderModel", "state", "I", false)
  | 40 => ("TypeFinderModel", "waiting", "I", false)
  | 41 => ("TypeFinderModel", "waits", "[I", true)
  | 42 => ("TypeFinderModel", "types", "I", false)
  | 43 => ("TypeFinderModel", "kind", "[I", true)
  | 44 => ("TypeFinderModel", "left", "[I", true)
  | 45 => ("TypeFinderModel", "right", "[I", true)
  | 46 => ("TypeFinderModel", "seen", "[I", true)
  | 47 => ("TypeFinderModel", "copied", "[I", true)
  | 48 => ("TypeFinderModel", "stamp", "I", false)
  | 49 => ("TypeFinderModel", "pile", "I", false)
  | 50 => ("TypeFinderModel", "piled", "[I", true)
  | 51 => ("TypeFinderModel", "also", "[I", true)
  | 52 => ("TypeFinderModel", "held", "I", false)
  | 53 => ("TypeFinderModel", "hold", "[I", true)
  | 54 => ("TypeFinderModel", "bound", "I", false)
  | 55 => ("TypeFinderModel", "boundWord", "[I", true)
  | 56 => ("TypeFinderModel", "boundType", "[I", true)
  | 57 => ("TypeFinderModel", "cases", "I", false)
  | 58 => ("TypeFinderModel", "found", "[I", true)
  | 59 => ("TypeFinderModel", "firstPattern", "[I", true)
  | 60 => ("TypeFinderModel", "patterns", "I", false)
  | 61 => ("TypeFinderModel", "patternKind", "[I", true)
  | 62 => ("TypeFinderModel", "patternOf", "[I", true)
  | 63 => ("TypeFinderModel", "failed", "I", false)
  | 64 => ("TypeFinderModel", "idle", "I", false)
  | 65 => ("TypeFinderModel", "holes", "I", false)
  | 66 => ("TypeFinderModel", "matched", "[I", true)
  | 67 => ("TypeFinderModel", "shown", "I", false)
  | 68 => ("TypeFinderModel", "text", "[I", true)
  | 69 => ("TypeFinderModel", "defined", "I", false)
  | 70 => ("TypeFinderModel", "self", "I", false)
  | 71 => ("TypeFinderModel", "selfParameters", "I", false)
  | 72 => ("TypeFinderModel", "pieces", "I", false)
  | 73 => ("TypeFinderModel", "piece", "[I", true)
  | 74 => ("TypeFinderModel", "pieceWord", "[I", true)
  | 75 => ("TypeFinderModel", "pieceParts", "[I", true)
  | 76 => ("TypeFinderModel", "parameterWord", "[I", true)
  | 77 => ("TypeFinderModel", "choices", "I", false)
  | 78 => ("TypeFinderModel", "choiceWord", "[I", true)
  | _ => ("TypeFinderModel", "choiceParts", "[I", true)
def t_14 : Nat → FieldType := fun k => match k with
  | 0 => .int
  | 1 => .int
  | 2 => .int
  | 3 => .array .int
  | 4 => .int
  | 5 => .array .int
  | 6 => .array .int
  | 7 => .array .int
  | 8 => .array .boolean
  | 9 => .int
  | 10 => .array .int
  | 11 => .array .int
  | 12 => .array .int
  | 13 => .int
  | 14 => .array .int
  | 15 => .array .int
  | 16 => .array .int
  | 17 => .array .boolean
  | 18 => .int
  | 19 => .array .int
  | 20 => .array .int
  | 21 => .array .int
  | 22 => .array .int
  | 23 => .array .int
  | 24 => .int
  | 25 => .boolean
  | 26 => .int
  | 27 => .array .int
  | 28 => .array .int
  | 29 => .array .int
  | 30 => .int
  | 31 => .array .int
  | 32 => .array .int
  | 33 => .array .int
  | 34 => .array .int
  | 35 => .array .int
  | 36 => .array .int
  | 37 => .int
  | 38 => .int
  | 39 => .int
  | 40 => .int
  | 41 => .array .int
  | 42 => .int
  | 43 => .array .int
  | 44 => .array .int
  | 45 => .array .int
  | 46 => .array .int
  | 47 => .array .int
  | 48 => .int
  | 49 => .int
  | 50 => .array .int
  | 51 => .array .int
  | 52 => .int
  | 53 => .array .int
  | 54 => .int
  | 55 => .array .int
  | 56 => .array .int
  | 57 => .int
  | 58 => .array .int
  | 59 => .array .int
  | 60 => .int
  | 61 => .array .int
  | 62 => .array .int
  | 63 => .int
  | 64 => .int
  | 65 => .int
  | 66 => .array .int
  | 67 => .int
  | 68 => .array .int
  | 69 => .int
  | 70 => .int
  | 71 => .int
  | 72 => .int
  | 73 => .array .int
  | 74 => .array .int
  | 75 => .array .int
  | 76 => .array .int
  | 77 => .int
  | 78 => .array .int
  | _ => .array .int
abbrev xb_cl : List vw_C := [(R_0, F_0, 9), (R_1, F_1, 4), (R_2, F_2, 5), (R_3, F_3, 1), (R_4, F_4, 5), (R_5, F_5, 8), (R_6, F_6, 5), (R_7, F_7, 3), (R_8, F_8, 6), (R_9, F_9, 4), (R_10, F_10, 2), (R_11, F_11, 3), (R_12, F_12, 4), (R_13, F_13, 4), (R_14, F_14, 80)]
abbrev xb_iS : Nat := 13
def xb_sN : Nat := 7
def xb_sL : List Nat := [40, 10, 4, 4, 5, 4, 3]
def xb_sB : List (List Int32) := [[102, 110, 32, 108, 101, 116, 32, 105, 110, 32, 105, 102, 32, 116, 104, 101, 110, 32, 101, 108, 115, 101, 32, 99, 97, 115, 101, 32, 111, 102, 32, 100, 97, 116, 97, 32, 105, 110, 116, 32], [43, 45, 42, 47, 60, 63, 58, 64, 94, 38], [98, 111, 111, 108], [84, 114, 117, 101], [70, 97, 108, 115, 101], [108, 105, 115, 116], [78, 105, 108]]
def xb_sR : List (String × Nat × String × Nat) := [("TypeFinder$Known", 30, "bool", 2), ("TypeFinder$Known", 55, "True", 3), ("TypeFinder$Known", 64, "False", 4), ("TypeFinder$Known", 66, "list", 5), ("TypeFinder$Known", 77, "Nil", 6), ("TypeFinder$Tokens", 22, "fn let in if then else case of data int ", 0)]
def xb_cs : List (String × String) := [("TypeFinder$Name", "java/lang/Object"), ("TypeFinder$DataType", "java/lang/Object"), ("java/lang/IllegalArgumentException", "java/lang/IllegalArgumentException")]
def xb_dl : List MethodName := [⟨"java/lang/RuntimeException", "<init>", "()V"⟩, ⟨"java/lang/Exception", "<init>", "()V"⟩, ⟨"java/lang/Throwable", "<init>", "()V"⟩]
def xb_tz : List (String × String) := [("UNASSIGNED_STACK", "[Ljava/lang/StackTraceElement;"), ("SUPPRESSED_SENTINEL", "Ljava/util/List;")]
abbrev b_String_coder : ByteArray := prog_28_method_152_code
def y_String_coder : MethodName := ⟨"java/lang/String", "coder", "()B"⟩
abbrev b_String_isLatin1 : ByteArray := prog_28_method_154_code
def y_String_isLatin1 : MethodName := ⟨"java/lang/String", "isLatin1", "()Z"⟩
abbrev b_String_length : ByteArray := prog_28_method_54_code
def y_String_length : MethodName := ⟨"java/lang/String", "length", "()I"⟩
abbrev b_Preconditions_checkIndex : ByteArray := prog_46_method_11_code
def y_Preconditions_checkIndex : MethodName := ⟨"jdk/internal/util/Preconditions", "checkIndex", "(IILjava/util/function/BiFunction;)I"⟩
abbrev b_String_checkIndex : ByteArray := prog_28_method_155_code
def y_String_checkIndex : MethodName := ⟨"java/lang/String", "checkIndex", "(II)V"⟩
abbrev b_StringLatin1_charAt : ByteArray := prog_31_method_2_code
def y_StringLatin1_charAt : MethodName := ⟨"java/lang/StringLatin1", "charAt", "([BI)C"⟩
abbrev b_String_charAt : ByteArray := prog_28_method_56_code
def y_String_charAt : MethodName := ⟨"java/lang/String", "charAt", "(I)C"⟩
abbrev b_AbstractCollection_init : ByteArray := prog_36_method_1_code
def y_AbstractCollection_init : MethodName := ⟨"java/util/AbstractCollection", "<init>", "()V"⟩
abbrev b_AbstractList_init : ByteArray := prog_37_method_1_code
def y_AbstractList_init : MethodName := ⟨"java/util/AbstractList", "<init>", "()V"⟩
abbrev b_ArrayList_init : ByteArray := prog_38_method_2_code
def y_ArrayList_init : MethodName := ⟨"java/util/ArrayList", "<init>", "()V"⟩
abbrev b_ArrayList_grow : ByteArray := prog_38_method_6_code
def y_ArrayList_grow : MethodName := ⟨"java/util/ArrayList", "grow", "(I)[Ljava/lang/Object;"⟩
abbrev b_ArrayList_grow2 : ByteArray := prog_38_method_7_code
def y_ArrayList_grow2 : MethodName := ⟨"java/util/ArrayList", "grow", "()[Ljava/lang/Object;"⟩
abbrev b_ArrayList_add : ByteArray := prog_38_method_24_code
def y_ArrayList_add : MethodName := ⟨"java/util/ArrayList", "add", "(Ljava/lang/Object;[Ljava/lang/Object;I)V"⟩
abbrev b_ArrayList_add2 : ByteArray := prog_38_method_25_code
def y_ArrayList_add2 : MethodName := ⟨"java/util/ArrayList", "add", "(Ljava/lang/Object;)Z"⟩
abbrev b_AbstractStringBuilder_init : ByteArray := prog_16_method_2_code
def y_AbstractStringBuilder_init : MethodName := ⟨"java/lang/AbstractStringBuilder", "<init>", "(I)V"⟩
abbrev b_StringBuilder_init : ByteArray := prog_29_method_1_code
def y_StringBuilder_init : MethodName := ⟨"java/lang/StringBuilder", "<init>", "()V"⟩
abbrev b_TypeFinder_Type_init : ByteArray := prog_10_method_2_code
def y_TypeFinder_Type_init : MethodName := ⟨"TypeFinder$Type", "<init>", "(ILTypeFinder$DataType;LTypeFinder$Type;LTypeFinder$Type;)V"⟩
abbrev b_TypeFinder_Name_init : ByteArray := prog_6_method_1_code
def y_TypeFinder_Name_init : MethodName := ⟨"TypeFinder$Name", "<init>", "(JLTypeFinder$Type;Z)V"⟩
abbrev b_TypeFinder_Unifier_function : ByteArray := prog_11_method_2_code
def y_TypeFinder_Unifier_function : MethodName := ⟨"TypeFinder$Unifier", "function", "(LTypeFinder$Type;LTypeFinder$Type;)LTypeFinder$Type;"⟩
abbrev b_TypeFinder_DataType_init : ByteArray := prog_4_method_1_code
def y_TypeFinder_DataType_init : MethodName := ⟨"TypeFinder$DataType", "<init>", "(JI)V"⟩
abbrev b_TypeFinder_DataType_made : ByteArray := prog_4_method_2_code
def y_TypeFinder_DataType_made : MethodName := ⟨"TypeFinder$DataType", "made", "(JI)LTypeFinder$DataType;"⟩
abbrev b_TypeFinder_Unifier_init : ByteArray := prog_11_method_1_code
def y_TypeFinder_Unifier_init : MethodName := ⟨"TypeFinder$Unifier", "<init>", "()V"⟩
abbrev b_TypeFinder_Checker_init : ByteArray := prog_2_method_1_code
def y_TypeFinder_Checker_init : MethodName := ⟨"TypeFinder$Checker", "<init>", "(LTypeFinder$Known;)V"⟩
abbrev b_TypeFinder_Writer_init : ByteArray := prog_12_method_1_code
def y_TypeFinder_Writer_init : MethodName := ⟨"TypeFinder$Writer", "<init>", "()V"⟩
abbrev b_TypeFinder_DataParser_init : ByteArray := prog_3_method_1_code
def y_TypeFinder_DataParser_init : MethodName := ⟨"TypeFinder$DataParser", "<init>", "(LTypeFinder$Tokens;)V"⟩
abbrev b_TypeFinder_Tokens_packed : ByteArray := prog_9_method_2_code
def y_TypeFinder_Tokens_packed : MethodName := ⟨"TypeFinder$Tokens", "packed", "(Ljava/lang/String;)J"⟩
abbrev b_ArrayList_size : ByteArray := prog_38_method_8_code
def y_ArrayList_size : MethodName := ⟨"java/util/ArrayList", "size", "()I"⟩
abbrev b_TypeFinder_Known_init : ByteArray := prog_5_method_1_code
def y_TypeFinder_Known_init : MethodName := ⟨"TypeFinder$Known", "<init>", "()V"⟩
abbrev b_TypeFinder_Tokens_init : ByteArray := prog_9_method_1_code
def y_TypeFinder_Tokens_init : MethodName := ⟨"TypeFinder$Tokens", "<init>", "()V"⟩
abbrev b_TypeFinder_Parser_init : ByteArray := prog_8_method_1_code
def y_TypeFinder_Parser_init : MethodName := ⟨"TypeFinder$Parser", "<init>", "()V"⟩
abbrev b_TypeFinder_init : ByteArray := prog_1_method_1_code
def y_TypeFinder_init : MethodName := ⟨"TypeFinder", "<init>", "()V"⟩
abbrev b_TypeFinderModel_wordOf : ByteArray := prog_14_method_3_code
def y_TypeFinderModel_wordOf : MethodName := ⟨"TypeFinderModel", "wordOf", "(J)I"⟩
abbrev b_TypeFinderModel_setName : ByteArray := prog_14_method_2_code
def y_TypeFinderModel_setName : MethodName := ⟨"TypeFinderModel", "setName", "(IIIIII)V"⟩
abbrev b_TypeFinderModel_init : ByteArray := prog_14_method_1_code
def y_TypeFinderModel_init : MethodName := ⟨"TypeFinderModel", "<init>", "()V"⟩
abbrev b_TypeFinder_takeDraft : ByteArray := prog_1_method_11_code
def y_TypeFinder_takeDraft : MethodName := ⟨"TypeFinder", "takeDraft", "()I"⟩
abbrev b_TypeFinder_Tokens_put : ByteArray := prog_9_method_11_code
def y_TypeFinder_Tokens_put : MethodName := ⟨"TypeFinder$Tokens", "put", "(IJ)V"⟩
abbrev b_TypeFinder_Tokens_read : ByteArray := prog_9_method_3_code
def y_TypeFinder_Tokens_read : MethodName := ⟨"TypeFinder$Tokens", "read", "([CI)V"⟩
abbrev b_TypeFinder_Tokens_accept : ByteArray := prog_9_method_16_code
def y_TypeFinder_Tokens_accept : MethodName := ⟨"TypeFinder$Tokens", "accept", "(I)Z"⟩
abbrev b_TypeFinder_Tokens_is : ByteArray := prog_9_method_13_code
def y_TypeFinder_Tokens_is : MethodName := ⟨"TypeFinder$Tokens", "is", "(I)Z"⟩
abbrev b_TypeFinder_Tokens_kindBehind : ByteArray := prog_9_method_14_code
def y_TypeFinder_Tokens_kindBehind : MethodName := ⟨"TypeFinder$Tokens", "kindBehind", "()I"⟩
abbrev b_TypeFinder_Tokens_take : ByteArray := prog_9_method_17_code
def y_TypeFinder_Tokens_take : MethodName := ⟨"TypeFinder$Tokens", "take", "(I)J"⟩
abbrev b_TypeFinder_Parser_definition : ByteArray := prog_8_method_6_code
def y_TypeFinder_Parser_definition : MethodName := ⟨"TypeFinder$Parser", "definition", "(I)LTypeFinder$Node;"⟩
abbrev b_TypeFinder_Parser_declaration : ByteArray := prog_8_method_3_code
def y_TypeFinder_Parser_declaration : MethodName := ⟨"TypeFinder$Parser", "declaration", "([CI)LTypeFinder$Node;"⟩
abbrev b_TypeFinder_Parser_atom : ByteArray := prog_8_method_22_code
def y_TypeFinder_Parser_atom : MethodName := ⟨"TypeFinder$Parser", "atom", "(I)LTypeFinder$Node;"⟩
abbrev b_TypeFinder_Parser_application : ByteArray := prog_8_method_20_code
def y_TypeFinder_Parser_application : MethodName := ⟨"TypeFinder$Parser", "application", "(I)LTypeFinder$Node;"⟩
abbrev b_TypeFinder_Parser_chain : ByteArray := prog_8_method_15_code
def y_TypeFinder_Parser_chain : MethodName := ⟨"TypeFinder$Parser", "chain", "(I)LTypeFinder$Node;"⟩
abbrev b_TypeFinder_Parser_expression : ByteArray := prog_8_method_7_code
def y_TypeFinder_Parser_expression : MethodName := ⟨"TypeFinder$Parser", "expression", "(I)LTypeFinder$Node;"⟩
abbrev b_TypeFinder_Parser_question : ByteArray := prog_8_method_4_code
def y_TypeFinder_Parser_question : MethodName := ⟨"TypeFinder$Parser", "question", "([CI)LTypeFinder$Node;"⟩
abbrev b_TypeFinder_declare : ByteArray := prog_1_method_3_code
def y_TypeFinder_declare : MethodName := ⟨"TypeFinder", "declare", "()I"⟩
abbrev b_TypeFinder_ask : ByteArray := prog_1_method_4_code
def y_TypeFinder_ask : MethodName := ⟨"TypeFinder", "ask", "()I"⟩
abbrev b_Preconditions_checkFromToIndex : ByteArray := prog_46_method_12_code
def y_Preconditions_checkFromToIndex : MethodName := ⟨"jdk/internal/util/Preconditions", "checkFromToIndex", "(IIILjava/util/function/BiFunction;)I"⟩
abbrev b_String_checkBoundsBeginEnd : ByteArray := prog_28_method_158_code
def y_String_checkBoundsBeginEnd : MethodName := ⟨"java/lang/String", "checkBoundsBeginEnd", "(III)V"⟩
abbrev b_Arrays_checkLength : ByteArray := prog_39_method_131_code
def y_Arrays_checkLength : MethodName := ⟨"java/util/Arrays", "checkLength", "(II)V"⟩
abbrev b_Arrays_copyOfRangeByte : ByteArray := prog_39_method_133_code
def y_Arrays_copyOfRangeByte : MethodName := ⟨"java/util/Arrays", "copyOfRangeByte", "([BII)[B"⟩
abbrev b_Arrays_copyOfRange : ByteArray := prog_39_method_132_code
def y_Arrays_copyOfRange : MethodName := ⟨"java/util/Arrays", "copyOfRange", "([BII)[B"⟩
abbrev b_String_init : ByteArray := prog_28_method_151_code
def y_String_init : MethodName := ⟨"java/lang/String", "<init>", "([BB)V"⟩
abbrev b_StringLatin1_newString : ByteArray := prog_31_method_47_code
def y_StringLatin1_newString : MethodName := ⟨"java/lang/StringLatin1", "newString", "([BII)Ljava/lang/String;"⟩
abbrev b_String_substring : ByteArray := prog_28_method_92_code
def y_String_substring : MethodName := ⟨"java/lang/String", "substring", "(II)Ljava/lang/String;"⟩
abbrev b_TypeFinderModel_declare : ByteArray := prog_14_method_82_code
def y_TypeFinderModel_declare : MethodName := ⟨"TypeFinderModel", "declare", "()I"⟩
abbrev b_TypeFinderModel_begin : ByteArray := prog_14_method_79_code
def y_TypeFinderModel_begin : MethodName := ⟨"TypeFinderModel", "begin", "()Z"⟩
abbrev b_TypeFinderModel_split : ByteArray := prog_14_method_15_code
def y_TypeFinderModel_split : MethodName := ⟨"TypeFinderModel", "split", "()V"⟩
abbrev b_TypeFinderModel_put : ByteArray := prog_14_method_10_code
def y_TypeFinderModel_put : MethodName := ⟨"TypeFinderModel", "put", "(II)V"⟩
abbrev b_TypeFinderModel_peek : ByteArray := prog_14_method_17_code
def y_TypeFinderModel_peek : MethodName := ⟨"TypeFinderModel", "peek", "()I"⟩
abbrev b_TypeFinderModel_heading : ByteArray := prog_14_method_81_code
def y_TypeFinderModel_heading : MethodName := ⟨"TypeFinderModel", "heading", "()I"⟩
abbrev b_TypeFinderModel_expect : ByteArray := prog_14_method_18_code
def y_TypeFinderModel_expect : MethodName := ⟨"TypeFinderModel", "expect", "(I)V"⟩
abbrev b_TypeFinderModel_refuse : ByteArray := prog_14_method_78_code
def y_TypeFinderModel_refuse : MethodName := ⟨"TypeFinderModel", "refuse", "(I)I"⟩
abbrev b_TypeFinderModel_ask : ByteArray := prog_14_method_80_code
def y_TypeFinderModel_ask : MethodName := ⟨"TypeFinderModel", "ask", "()I"⟩
abbrev b_TypeFinderModel_expression : ByteArray := prog_14_method_24_code
def y_TypeFinderModel_expression : MethodName := ⟨"TypeFinderModel", "expression", "()V"⟩
abbrev b_TypeFinderModel_beginExpression : ByteArray := prog_14_method_25_code
def y_TypeFinderModel_beginExpression : MethodName := ⟨"TypeFinderModel", "beginExpression", "()V"⟩
abbrev b_TypeFinderModel_enter : ByteArray := prog_14_method_21_code
def y_TypeFinderModel_enter : MethodName := ⟨"TypeFinderModel", "enter", "(III)V"⟩
abbrev b_TypeFinderModel_within : ByteArray := prog_14_method_22_code
def y_TypeFinderModel_within : MethodName := ⟨"TypeFinderModel", "within", "(I)V"⟩
abbrev b_TypeFinderModel_chain : ByteArray := prog_14_method_28_code
def y_TypeFinderModel_chain : MethodName := ⟨"TypeFinderModel", "chain", "()V"⟩
abbrev b_TypeFinderModel_atom : ByteArray := prog_14_method_27_code
def y_TypeFinderModel_atom : MethodName := ⟨"TypeFinderModel", "atom", "(I)Z"⟩
end
section
/-! The base: one list of words for all contracts (xb_g), one environment (xb_EV), one form of contract (xb_CT), calls and reads and writes in this form. -/
def xb_g : List Cond := lw_tbl.filter goodWord
theorem xb_gin : GoodIn xb_g xb_g := fun _ h => ⟨h, good_of_word (List.mem_filter.mp h).2⟩
theorem xb_gof {args : Array Value} {s : State} (h : ∀ w ∈ lw_tbl, w.before args s = true) : ∀ w ∈ xb_g, w.before args s = true := fun w hw => h w (List.mem_filter.mp hw).1
theorem xb_gcode {y : MethodName} {b : ByteArray} {n : Nat} {r : Option FieldType} (h : Cond.code y b n r ∈ xb_g) : GoodIn xb_g (Cond.code y b n r :: xb_g) := fun w hw => by
  rcases List.mem_cons.mp hw with rfl | hw
  · exact xb_gin _ h
  · exact xb_gin _ hw
theorem xb_m (i : Nat) {w : Cond} (h : tables_1[i]? = some w) (hg : goodWord w = true) : w ∈ xb_g := List.mem_filter.mpr ⟨List.mem_append_right _ (List.mem_of_getElem? h), hg⟩
theorem xb_ms {q : MethodName × Nat} (h : q ∈ lw_privs) (hg : goodWord (Cond.selects q.1.cls q.1 q.1) = true) : Cond.selects q.1.cls q.1 q.1 ∈ xb_g := List.mem_filter.mpr ⟨List.mem_append_left _ (List.mem_map.mpr ⟨q, h, rfl⟩), hg⟩
/-- the environment: the tables' numbers; the numbers of the array classes; the empty row of ArrayList; the literals (texts, rows of bytes) -/
abbrev xb_EV : Type := va_G × (Nat → ClassId) × Nat × (Nat → Nat) × (Nat → Nat)
abbrev xb_ty (ca : Nat → ClassId) : List (ClassId × FieldType) := [(ca 0, .int), (ca 1, .long), (ca 2, .boolean), (ca 3, .char), (ca 4, .byte), (ca 5, .object "java/lang/Object")]
abbrev xb_K (G : xb_EV) (U : State) : Prop := va_K G.1 xb_cl (xb_ty G.2.1) U
abbrev xb_P (G : xb_EV) (ws : va_W) (H : Heap) : Prop := va_P G.1 xb_cl ws H
/-- a text at a, its bytes at d: n of them -/
def xb_SB (q : Nat × Nat × Nat × (Nat → Int32)) (A : Nat → Prop) (U : State) (H : Heap) : Prop := va_O "java/lang/String" q.1 A U H ∧ va_OF "java/lang/String" "coder" "B" (.int 0) q.1 A U H ∧ va_OF "java/lang/String" "value" "[B" (.ref q.2.1) q.1 A U H ∧ va_T .byte q.2.1 q.2.2.1 (fun j => .int (q.2.2.2 j)) A U H
def xb_SS (ss : List (Nat × Nat × Nat × (Nat → Int32))) (A : Nat → Prop) (U : State) (H : Heap) : Prop := ∀ q ∈ ss, xb_SB q A U H
/-- a static of a reference, and that its place is laid -/
def xb_LS (C n d : String) (A : Nat → Prop) (U : State) (H : Heap) : Prop := ∃ (c : ClassId) (k : Class) (i : Nat) (f : Field) (a : Nat) (cell : Cell) (r : Option Nat), U.vm.findClass C = some c ∧ U.fieldFound? C n d = some (c, k, i, f) ∧ f.isStatic = true ∧ k.statics = some a ∧ H[a]? = some cell ∧ cell.vm.isStatics = true ∧ cell.cls = c ∧ f.slot < cell.slots.size ∧ k.staticTypes[f.slot]? = some f.type ∧ cell.slots[f.slot]? = some (va_rf r) ∧ ¬ A a
theorem xb_LS.go {C n d : String} {A B : Nat → Prop} {u U : State} {H H1 : Heap} (h : xb_LS C n d A u H) (hq : ∀ a : Nat, a < H.size → ¬ A a → H1[a]? = H[a]?) (hAB : ∀ q, B q → A q) (hvm : u.vm.Alike U.vm) : xb_LS C n d B U H1 := by
  obtain ⟨c, k, i, f, a, cell, r, h1, h2, h3, h4, h5, h6, h7, h8, h9, h10, h11⟩ := h
  obtain ⟨k', hi', he⟩ := State.fieldFound?_setVm hvm h2
  exact ⟨c, k', i, f, a, cell, r, by rw [hvm.findClass]; exact h1, hi', h3, by rw [he]; exact h4, by rw [hq a (Array.getElem?_eq_some_iff.mp h5).1 h11]; exact h5, h6, h7, h8, by rw [he]; exact h9, h10, fun z => h11 (hAB a z)⟩
theorem xb_LS.lays {C n d : String} {A : Nat → Prop} {U : State} {args : Array Value} (h : xb_LS C n d A U U.heap) : (Cond.laysStatic C n d).before args U = true := by
  obtain ⟨c, k, i, f, a, cell, r, h1, h2, h3, h4, h5, h6, h7, h8, h9, h10, h11⟩ := h
  exact Cond.laysStatic_of h1 h2 h3 h4 h5 h6 h7 h8 h9
theorem xb_LS.isref {C n d : String} {A : Nat → Prop} {U : State} {args : Array Value} (h : xb_LS C n d A U U.heap) : (Cond.isRef (.static C n d)).before args U = true := by
  obtain ⟨c, k, i, f, a, cell, r, h1, h2, h3, h4, h5, h6, h7, h8, h9, h10, h11⟩ := h
  cases r with
  | none => simp [Cond.before, Cond.holds, Cond.value, Term.eval, State.fieldNamed?, h2, h3, h4, h5, h6, h10, va_rf]
  | some x => simp [Cond.before, Cond.holds, Cond.value, Term.eval, State.fieldNamed?, h2, h3, h4, h5, h6, h10, va_rf]
/-- what is never written: the two statics, the literals -/
def xb_E (G : xb_EV) (A : Nat → Prop) (U : State) (H : Heap) : Prop := va_Z "java/util/ArrayList" "DEFAULTCAPACITY_EMPTY_ELEMENTDATA" "[Ljava/lang/Object;" (.ref G.2.2.1) A U H ∧ va_T (.object "java/lang/Object") G.2.2.1 0 (fun _ => .null) A U H ∧ va_Z "java/lang/String" "COMPACT_STRINGS" "Z" (.int 1) A U H ∧ vk_S xb_sN xb_sL xb_sB G.2.2.2.1 G.2.2.2.2 A U H ∧ (∀ q ∈ xb_sR, vk_R q.1 q.2.1 q.2.2.1 (G.2.2.2.1 q.2.2.2) U) ∧ (∃ z : Nat, va_Z "jdk/internal/util/Preconditions" "SIOOBE_FORMATTER" "Ljava/util/function/BiFunction;" (.ref z) A U H) ∧ (∀ q ∈ xb_cs, va_Nw (.castable q.1 q.2) U) ∧ va_AO "java/lang/Object" U ∧ (∀ y ∈ xb_dl, va_Nw (.declares y) U) ∧ ∀ q ∈ xb_tz, xb_LS "java/lang/Throwable" q.1 q.2 A U H
theorem xb_E.go {G : xb_EV} {A B : Nat → Prop} {s U : State} {H : Heap} {locs : List Loc} (h : xb_E G A s s.heap) (hS : va_S A s.heap H locs) (hAB : ∀ q, B q → A q) (hU : U.heap = H) (hW : s.WarmedH U.vm) : xb_E G B U U.heap := by
  obtain ⟨h1, h2, h3, h4, h5, ⟨z, h6⟩, h7, h8, h9, h10⟩ := h
  rw [hU]
  exact ⟨((h1.kept (fun a x y => hS.2.1 a x y)).narrow hAB).moved hW.alike, ((h2.kept (fun a x y => hS.2.1 a x y)).narrow hAB).moved hW.alike, ((h3.kept (fun a x y => hS.2.1 a x y)).narrow hAB).moved hW.alike, ((h4.kept (fun a x y => hS.2.1 a x y)).narrow hAB).moved hW.alike, fun q hq => (h5 q hq).warm hW, ⟨z, ((h6.kept (fun a x y => hS.2.1 a x y)).narrow hAB).moved hW.alike⟩, fun q hq => va_Nw.warmC hW (h7 q hq), h8.moved hW.alike, fun y hy => va_Nw.warmD hW (h9 y hy), fun q hq => (h10 q hq).go (fun a x y => hS.2.1 a x y) hAB hW.alike⟩
theorem xb_SB.go {q : Nat × Nat × Nat × (Nat → Int32)} {A B : Nat → Prop} {s U : State} {H : Heap} {locs : List Loc} (h : xb_SB q A s s.heap) (hS : va_S A s.heap H locs) (hAB : ∀ q, B q → A q) (hU : U.heap = H) (hW : s.WarmedH U.vm) : xb_SB q B U U.heap := by
  obtain ⟨h1, h2, h3, h4⟩ := h
  rw [hU]
  exact ⟨((h1.kept (fun a x y => hS.2.1 a x y)).narrow hAB).moved hW.alike, ((h2.kept (fun a x y => hS.2.1 a x y)).narrow hAB).moved hW.alike, ((h3.kept (fun a x y => hS.2.1 a x y)).narrow hAB).moved hW.alike, ((h4.kept (fun a x y => hS.2.1 a x y)).narrow hAB).moved hW.alike⟩
theorem xb_SS.go {ss ss' : List (Nat × Nat × Nat × (Nat → Int32))} {A B : Nat → Prop} {s U : State} {H : Heap} {locs : List Loc} (h : xb_SS ss A s s.heap) (hin : ∀ q ∈ ss', q ∈ ss) (hS : va_S A s.heap H locs) (hAB : ∀ q, B q → A q) (hU : U.heap = H) (hW : s.WarmedH U.vm) : xb_SS ss' B U U.heap := fun q hq => (h q (hin q hq)).go hS hAB hU hW
/-- what a contract asks at its start -/
def xb_pre (G : xb_EV) (ss : List (Nat × Nat × Nat × (Nat → Int32))) (wc : va_W) (sz : Nat) (U : State) : Prop := U.heap.size = sz ∧ xb_P G wc U.heap ∧ xb_K G U ∧ va_D (fun _ => True) wc ∧ xb_E G (va_A wc sz) U U.heap ∧ xb_SS ss (va_A wc sz) U U.heap
theorem xb_blind {G : xb_EV} {ss : List (Nat × Nat × Nat × (Nat → Int32))} {wc : va_W} {sz : Nat} {av : List Value} : FrameBlind (va_Pc av (xb_pre G ss wc sz)) := by
  intro a U g mk h
  obtain ⟨h0, h1, h2, h3, h4, h5, h6⟩ := h
  exact ⟨h0, h1, h2, va_K.moved (u := U) (U := U.calling g mk a) (Vm.Alike.refl U.vm) h3, h4, ⟨h5.1.moved (U := U.calling g mk a) (Vm.Alike.refl U.vm), h5.2.1.moved (U := U.calling g mk a) (Vm.Alike.refl U.vm), h5.2.2.1.moved (U := U.calling g mk a) (Vm.Alike.refl U.vm), h5.2.2.2.1.moved (U := U.calling g mk a) (Vm.Alike.refl U.vm), fun q hq => (h5.2.2.2.2.1 q hq).same (u := U) rfl, h5.2.2.2.2.2.1.imp (fun _ hz => hz.moved (U := U.calling g mk a) (Vm.Alike.refl U.vm)), fun q hq => va_Nw.same rfl (u := U) rfl (h5.2.2.2.2.2.2.1 q hq), h5.2.2.2.2.2.2.2.1.moved (U := U.calling g mk a) (Vm.Alike.refl U.vm), fun y hy => va_Nw.same rfl (u := U) rfl (h5.2.2.2.2.2.2.2.2.1 y hy), fun q hq => (h5.2.2.2.2.2.2.2.2.2 q hq).go (U := U.calling g mk a) (fun _ _ _ => rfl) (fun _ z => z) (Vm.Alike.refl U.vm)⟩,
    fun q hq => ⟨(h6 q hq).1.moved (U := U.calling g mk a) (Vm.Alike.refl U.vm), (h6 q hq).2.1.moved (U := U.calling g mk a) (Vm.Alike.refl U.vm), (h6 q hq).2.2.1.moved (U := U.calling g mk a) (Vm.Alike.refl U.vm), (h6 q hq).2.2.2.moved (U := U.calling g mk a) (Vm.Alike.refl U.vm)⟩⟩
/-- a contract's end: some u with 'post u'; the answer is 'val u', the cells wc have become w1 u -/
def xb_Q (G : xb_EV) (wc : va_W) (sz : Nat) {S : Type} (val : S → Option Value) (post : S → Prop) (w1 : S → va_W) : Array Value → State → Outcome → State → Prop := fun _ st oc t => (∃ u : S, oc = .returned (val u) ∧ post u ∧ xb_P G (w1 u) t.heap ∧ va_D (va_A wc sz) (w1 u)) ∧ va_F (va_A wc sz) st t
def xb_CT (l : Launch) (y : MethodName) (bytes : ByteArray) (maxL : Nat) (ret : Option FieldType) (rm : Room) (G : xb_EV) (ss : List (Nat × Nat × Nat × (Nat → Int32))) (av : List Value) (wc : va_W) {S : Type} (val : S → Option Value) (post : S → Prop) (w1 : S → va_W) : Prop :=
  ∀ sz : Nat, Met l y (Cond.code y bytes maxL ret :: xb_g) rm (va_Pc av (xb_pre G ss wc sz)) (xb_Q G wc sz val post w1) rm.cells rm.slots (va_A wc sz)
/-- what stands fast in a method's walk -/
def xb_F (p : Program) (s : State) (m : MethodId) (args : Array Value) (c : Code) (cc : ByteArray) (nL : Nat) (own : String) (G : xb_EV) (ss : List (Nat × Nat × Nat × (Nat → Int32))) (A : Nat → Prop) : Prop :=
  (p.tables.exec = Jvm.exec ∧ c.code = cc ∧ c.maxLocals = nL ∧ s.vm.findClass own = some m.cls ∧ ∀ w ∈ xb_g, w.before args s = true) ∧ xb_K G s ∧ (∀ q : Nat, s.heap.size ≤ q → A q) ∧ xb_E G A s s.heap ∧ xb_SS ss A s s.heap
/-- a point of the walk: the cells, apart and in A; outside A nothing has changed -/
def xb_W (G : xb_EV) (A : Nat → Prop) (s : State) (ws : va_W) (H : Heap) (locs : List Loc) : Prop := xb_P G ws H ∧ va_D A ws ∧ va_S A s.heap H locs
section XBW
variable {p : Program} {l : Launch} {e : Env} {R : Room} {s : State} {m : MethodId} {args : Array Value} {below : List Frame} {meth : Method} {c : Code} {H : Heap} {locs : List Loc} {cells slots : Nat} {Q : State → Prop}
variable {cc : ByteArray} {nL pc : Nat} {own : String} {G : xb_EV} {ss : List (Nat × Nat × Nat × (Nat → Int32))} {A : Nat → Prop} {ls : Array Slot} {rest st0 : List Value} {ws wc wr : va_W}
/-- a walk of a method's body gives its contract -/
theorem xb_CT.of {y : MethodName} {bytes : ByteArray} {maxL : Nat} {ret : Option FieldType} {rm : Room} {av : List Value} {S : Type} {val : S → Option Value} {post : S → Prop} {w1 : S → va_W} (hy : plainFor y = true) (own : String) (hown : y.cls = own)
    (body : ∀ (p : Program) (e : Env) (s : State) (m : MethodId) (args : Array Value) (below : List Frame) (meth : Method) (c : Code) (A : Nat → Prop) (ls : Array Slot) (Q : State → Prop), xb_F p s m args c bytes maxL own G ss A → meth.sig.returnType = ret → meth.locks = false → meth.name = y.name → xb_W G A s wc s.heap [] → lv_has ls maxL (lv_args 0 av) → (∀ q, A q ↔ va_A wc s.heap.size q) →
      Q = MQ below (xb_Q G wc s.heap.size val post w1) args s rm.cells rm.slots (va_A wc s.heap.size) → W p l e rm s m args below meth c s.heap [] 0 0 Q (F0 m 0 ls [])) (hlen : (lg_sl av).length ≤ maxL) :
    xb_CT l y bytes maxL ret rm G ss av wc val post w1 := by
  intro sz
  refine va_MetF (cc := bytes) (maxL := maxL) (ret := ret) hy rfl ?_
  intro p e s m args below meth c s₁ B hml hv
  obtain ⟨rfl, hsz, hP, hK, hD0, hE, hSS⟩ := hv
  subst hsz
  have hts := atoms_spec (ws := Cond.code y bytes maxL ret :: xb_g) B.pre
  have hl := lv_entry av (n := maxL) hlen
  rw [lg_entry_eq]
  exact body p e s m av.toArray below meth c (va_A wc s.heap.size) _ _ ⟨⟨B.exec, B.bytes, hml, by rw [← hown]; exact findClass_of_methodNamed B.named, fun w hw => hts w (List.mem_cons_of_mem _ hw)⟩, hK, fun q h => Or.inr h, hE, hSS⟩ B.returns B.notSynchronized (name_of_methodNamed B.named B.method).1 ⟨hP, hD0.self (sz := s.heap.size), va_S.rf⟩ hl (fun _ => Iff.rfl) rfl
/-- the walk goes on behind a call -/
theorem xb_go {rm : Room} {av : List Value} {S : Type} {val : S → Option Value} {post : S → Prop} {w1 : S → va_W} (F : xb_F p s m args c cc nL own G ss A) (h : xb_W G A s ws H locs)
    (isC isR : List Nat) (hC : isC.map (fun i => ws[i]?) = wc.map some) (hR : isR.map (fun i => ws[i]?) = wr.map some) (hn : va_nd isR = true) (hdis : ∀ i ∈ isR, i ∉ isC)
    (hr : va_Run p l e R s m args below meth c H locs cells slots rm.cells rm.slots (F0 m pc ls st0) rest (xb_Q G wc H.size val post w1 av.toArray) (va_A wc H.size))
    (kk : ∀ (u : S) (H1 : Heap) (locs1 : List Loc), post u → xb_W G A s (wr ++ w1 u) H1 locs1 → W p l e R s m args below meth c H1 locs1 (cells + rm.cells) (slots + rm.slots) Q (F0 m (pc + 3) ls ((val u).toList ++ rest))) :
    W p l e R s m args below meth c H locs cells slots Q (F0 m pc ls st0) := by
  obtain ⟨hP, hD, hS⟩ := h
  have hF := va_free (wc := wc) hD hS F.2.2.1 isC hC
  intro T hT X
  obtain ⟨v, st₀, t, T', L, h0, X', hL, e1, e2, ⟨⟨u, hv, hp, hP1, hD1⟩, hz, hk⟩, st⟩ := hr T hT X
  cases hv
  rw [h0] at hz hk
  obtain ⟨hP2, hD2⟩ := va_join hP hD isC isR hC hR hn hdis hk hF hP1 hD1
  obtain ⟨t2, a1, b1⟩ := kk u T'.heap (locs ++ L) hp ⟨by rw [e1]; exact hP2, hD2,
    Nat.le_trans hS.1 (by rw [e1]; exact hz), fun q h1 h2 => by rw [e1, hk q (Nat.lt_of_lt_of_le h1 hS.1) (fun z => h2 (hF q z))]; exact hS.2.1 q h1 h2, fun q hq => by
      rcases List.mem_append.mp hq with h | h
      · exact hS.2.2 q h
      · exact hF _ (hL q h)⟩ T' rfl X'
  exact ⟨t2, st t2 a1, b1⟩
/-- the callee's start out of the caller's point -/
theorem xb_pre.at {ss' : List (Nat × Nat × Nat × (Nat → Int32))} (F : xb_F p s m args c cc nL own G ss A) (h : xb_W G A s ws H locs) (isC : List Nat) (hC : isC.map (fun i => ws[i]?) = wc.map some) (hc : va_nd isC = true) (hss : ∀ U : State, U.heap = H → s.WarmedH U.vm → xb_SS ss' (va_A wc H.size) U U.heap)
    {U : State} (hU : U.heap = H) (hW : s.WarmedH U.vm) : xb_pre G ss' wc H.size U := by
  obtain ⟨hP, hD, hS⟩ := h
  have hF := va_free (wc := wc) hD hS F.2.2.1 isC hC
  refine ⟨by rw [hU], ?_, va_K.moved hW.alike F.2.1, (hD.sub isC hc hC).weaken (fun _ _ _ _ => trivial), F.2.2.2.1.go hS hF hU hW, hss U hU hW⟩
  rw [hU]
  intro k q hk
  obtain ⟨i, hi⟩ : ∃ i : Nat, ws[i]? = some q := by
    have h1 : (wc.map some)[k]? = some (some q) := by rw [List.getElem?_map, hk]; rfl
    rw [← hC, List.getElem?_map] at h1
    cases h2 : isC[k]? with
    | none => rw [h2] at h1; cases h1
    | some i => rw [h2] at h1; exact ⟨i, Option.some.inj h1⟩
  exact hP i q hi
/-- words of a call: what must stand in the list -/
theorem xb_cI {y : MethodName} {bytes : ByteArray} {maxL index : Nat} {rm : Room} (n : Nat) (hts : ∀ w ∈ xb_g, w.before args s = true) (k1 : Cond.code y bytes maxL none ∈ xb_g) (k2 : Cond.initialized y.cls ∈ xb_g) (k3 : Cond.methodLink own index y ∈ xb_g) (k4 : Cond.instanceMethod y ∈ xb_g) (hy1 : y.name = "<init>")
    (hd : y.cls ≠ "java/lang/invoke/MethodHandle" ∧ y.cls ≠ "java/lang/invoke/VarHandle" ∧ (parseMethodDescriptor y.desc).map (fun d => d.parameters.length) = some n) (hR : rm.frames + 1 ≤ R.frames ∧ 8 + (maxL + 11) + rm.locals ≤ R.locals) :
    CallB R s args own index y bytes maxL none (Cond.code y bytes maxL none :: xb_g) rm rm.cells rm.slots n ∧ y.name = "<init>" ∧ (Cond.instanceMethod y).before args s = true :=
  ⟨callB_of n hts (xb_gcode k1) rfl rfl rfl (hts _ k2) (hts _ k3) hd hR, hy1, hts _ k4⟩
theorem xb_cV {y : MethodName} {bytes : ByteArray} {maxL index : Nat} {ret : Option FieldType} {rm : Room} {C : String} (n : Nat) (hts : ∀ w ∈ xb_g, w.before args s = true) (k1 : Cond.code y bytes maxL ret ∈ xb_g) (k2 : Cond.initialized y.cls ∈ xb_g) (k3 : Cond.methodLink own index y ∈ xb_g) (k4 : Cond.instanceMethod y ∈ xb_g) (k5 : Cond.selects C y y ∈ xb_g)
    (hd : y.cls ≠ "java/lang/invoke/MethodHandle" ∧ y.cls ≠ "java/lang/invoke/VarHandle" ∧ (parseMethodDescriptor y.desc).map (fun d => d.parameters.length) = some n) (hR : rm.frames + 1 ≤ R.frames ∧ 8 + (maxL + 11) + rm.locals ≤ R.locals) :
    CallW R s args own C index y bytes maxL ret (Cond.code y bytes maxL ret :: xb_g) rm rm.cells rm.slots n :=
  ⟨callB_of n hts (xb_gcode k1) rfl rfl rfl (hts _ k2) (hts _ k3) hd hR, hts _ k4, hts _ k5⟩
theorem xb_cS {y : MethodName} {bytes : ByteArray} {maxL index : Nat} {ret : Option FieldType} {rm : Room} (n : Nat) (hts : ∀ w ∈ xb_g, w.before args s = true) (k1 : Cond.code y bytes maxL ret ∈ xb_g) (k2 : Cond.initialized y.cls ∈ xb_g) (k3 : Cond.methodLink own index y ∈ xb_g) (k4 : Cond.static y ∈ xb_g)
    (hd : y.cls ≠ "java/lang/invoke/MethodHandle" ∧ y.cls ≠ "java/lang/invoke/VarHandle" ∧ (parseMethodDescriptor y.desc).map (fun d => d.parameters.length) = some n) (hR : rm.frames + 1 ≤ R.frames ∧ 8 + (maxL + 11) + rm.locals ≤ R.locals) :
    CallB R s args own index y bytes maxL ret (Cond.code y bytes maxL ret :: xb_g) rm rm.cells rm.slots n ∧ (Cond.static y).before args s = true :=
  ⟨callB_of n hts (xb_gcode k1) rfl rfl rfl (hts _ k2) (hts _ k3) hd hR, hts _ k4⟩
/-- invokespecial of a constructor -/
theorem xb_callI {y : MethodName} {bytes : ByteArray} {maxL index : Nat} {rm : Room} {ss' : List (Nat × Nat × Nat × (Nat → Int32))} {b : Nat} {As : List Value} {S : Type} {val : S → Option Value} {post : S → Prop} {w1 : S → va_W} (F : xb_F p s m args c cc nL own G ss A) (h : xb_W G A s ws H locs)
    (hM : xb_CT l y bytes maxL none rm G ss' (.ref b :: As) wc val post w1) (n : Nat) (k1 : Cond.code y bytes maxL none ∈ xb_g) (k2 : Cond.initialized y.cls ∈ xb_g) (k3 : Cond.methodLink own index y ∈ xb_g) (k4 : Cond.instanceMethod y ∈ xb_g) (hy1 : y.name = "<init>")
    (hd : y.cls ≠ "java/lang/invoke/MethodHandle" ∧ y.cls ≠ "java/lang/invoke/VarHandle" ∧ (parseMethodDescriptor y.desc).map (fun d => d.parameters.length) = some n) (hRm : rm.frames + 1 ≤ R.frames ∧ 8 + (maxL + 11) + rm.locals ≤ R.locals)
    (isC isR : List Nat) (hC : isC.map (fun i => ws[i]?) = wc.map some) (hR : isR.map (fun i => ws[i]?) = wr.map some) (hc : va_nd isC = true) (hn : va_nd isR = true) (hdis : ∀ i ∈ isR, i ∉ isC)
    (hss : ∀ U : State, U.heap = H → s.WarmedH U.vm → xb_SS ss' (va_A wc H.size) U U.heap)
    (hl : ls.size = nL) (hAs : As.length = n) (hst : st0 = As.reverse ++ .ref b :: rest) (hro : (rest.map fun v => v.category).sum ≤ 8) (hf : cells + rm.cells ≤ R.cells ∧ slots + rm.slots ≤ R.slots) (hdg : decode cc pc = .ok (.invokespecial index, 3))
    (kk : ∀ (u : S) (H1 : Heap) (locs1 : List Loc), post u → xb_W G A s (wr ++ w1 u) H1 locs1 → W p l e R s m args below meth c H1 locs1 (cells + rm.cells) (slots + rm.slots) Q (F0 m (pc + 3) ls ((val u).toList ++ rest))) :
    W p l e R s m args below meth c H locs cells slots Q (F0 m pc ls st0) :=
  xb_go (rm := rm) (av := .ref b :: As) F h isC isR hC hR hn hdis (va_runI F.1 (hM H.size) (xb_cI n F.1.2.2.2.2 k1 k2 k3 k4 hy1 hd hRm) ⟨xb_blind, fun _ hU hW => ⟨rfl, xb_pre.at F h isC hC hc hss hU hW⟩⟩ rfl hAs hl hst (lv_room hro) hdg hf) kk
/-- invokevirtual; hb: the receiver's cell -/
theorem xb_callV {y : MethodName} {bytes : ByteArray} {maxL index : Nat} {ret : Option FieldType} {rm : Room} {ss' : List (Nat × Nat × Nat × (Nat → Int32))} {C : String} {b : Nat} {As : List Value} {S : Type} {val : S → Option Value} {post : S → Prop} {w1 : S → va_W} (F : xb_F p s m args c cc nL own G ss A) (h : xb_W G A s ws H locs)
    (hM : xb_CT l y bytes maxL ret rm G ss' (.ref b :: As) wc val post w1) (n : Nat) (hb : ∃ cell : Cell, H[b]? = some cell ∧ cell.vm.isStatics = false ∧ s.vm.findClass C = some cell.cls) (k1 : Cond.code y bytes maxL ret ∈ xb_g) (k2 : Cond.initialized y.cls ∈ xb_g) (k3 : Cond.methodLink own index y ∈ xb_g) (k4 : Cond.instanceMethod y ∈ xb_g) (k5 : Cond.selects C y y ∈ xb_g)
    (hd : y.cls ≠ "java/lang/invoke/MethodHandle" ∧ y.cls ≠ "java/lang/invoke/VarHandle" ∧ (parseMethodDescriptor y.desc).map (fun d => d.parameters.length) = some n) (hRm : rm.frames + 1 ≤ R.frames ∧ 8 + (maxL + 11) + rm.locals ≤ R.locals)
    (isC isR : List Nat) (hC : isC.map (fun i => ws[i]?) = wc.map some) (hR : isR.map (fun i => ws[i]?) = wr.map some) (hc : va_nd isC = true) (hn : va_nd isR = true) (hdis : ∀ i ∈ isR, i ∉ isC)
    (hss : ∀ U : State, U.heap = H → s.WarmedH U.vm → xb_SS ss' (va_A wc H.size) U U.heap)
    (hl : ls.size = nL) (hAs : As.length = n) (hst : st0 = As.reverse ++ .ref b :: rest) (hro : (rest.map fun v => v.category).sum ≤ 8) (hf : cells + rm.cells ≤ R.cells ∧ slots + rm.slots ≤ R.slots) (hdg : decode cc pc = .ok (.invokevirtual index, 3))
    (kk : ∀ (u : S) (H1 : Heap) (locs1 : List Loc), post u → xb_W G A s (wr ++ w1 u) H1 locs1 → W p l e R s m args below meth c H1 locs1 (cells + rm.cells) (slots + rm.slots) Q (F0 m (pc + 3) ls ((val u).toList ++ rest))) :
    W p l e R s m args below meth c H locs cells slots Q (F0 m pc ls st0) :=
  xb_go (rm := rm) (av := .ref b :: As) F h isC isR hC hR hn hdis (va_runV F.1 (hM H.size) (xb_cV n F.1.2.2.2.2 k1 k2 k3 k4 k5 hd hRm) ⟨xb_blind, hb, fun _ hU hW => ⟨rfl, xb_pre.at F h isC hC hc hss hU hW⟩⟩ rfl hAs hl hst (lv_room hro) hdg hf) kk
/-- invokestatic -/
theorem xb_callS {y : MethodName} {bytes : ByteArray} {maxL index : Nat} {ret : Option FieldType} {rm : Room} {ss' : List (Nat × Nat × Nat × (Nat → Int32))} {As : List Value} {S : Type} {val : S → Option Value} {post : S → Prop} {w1 : S → va_W} (F : xb_F p s m args c cc nL own G ss A) (h : xb_W G A s ws H locs)
    (hM : xb_CT l y bytes maxL ret rm G ss' As wc val post w1) (n : Nat) (k1 : Cond.code y bytes maxL ret ∈ xb_g) (k2 : Cond.initialized y.cls ∈ xb_g) (k3 : Cond.methodLink own index y ∈ xb_g) (k4 : Cond.static y ∈ xb_g)
    (hd : y.cls ≠ "java/lang/invoke/MethodHandle" ∧ y.cls ≠ "java/lang/invoke/VarHandle" ∧ (parseMethodDescriptor y.desc).map (fun d => d.parameters.length) = some n) (hRm : rm.frames + 1 ≤ R.frames ∧ 8 + (maxL + 11) + rm.locals ≤ R.locals)
    (isC isR : List Nat) (hC : isC.map (fun i => ws[i]?) = wc.map some) (hR : isR.map (fun i => ws[i]?) = wr.map some) (hc : va_nd isC = true) (hn : va_nd isR = true) (hdis : ∀ i ∈ isR, i ∉ isC)
    (hss : ∀ U : State, U.heap = H → s.WarmedH U.vm → xb_SS ss' (va_A wc H.size) U U.heap)
    (hl : ls.size = nL) (hAs : As.length = n) (hst : st0 = As.reverse ++ rest) (hro : (rest.map fun v => v.category).sum ≤ 8) (hf : cells + rm.cells ≤ R.cells ∧ slots + rm.slots ≤ R.slots) (hdg : decode cc pc = .ok (.invokestatic index, 3))
    (kk : ∀ (u : S) (H1 : Heap) (locs1 : List Loc), post u → xb_W G A s (wr ++ w1 u) H1 locs1 → W p l e R s m args below meth c H1 locs1 (cells + rm.cells) (slots + rm.slots) Q (F0 m (pc + 3) ls ((val u).toList ++ rest))) :
    W p l e R s m args below meth c H locs cells slots Q (F0 m pc ls st0) :=
  xb_go (rm := rm) (av := As) F h isC isR hC hR hn hdis (va_runS F.1 (hM H.size) (xb_cS n F.1.2.2.2.2 k1 k2 k3 k4 hd hRm) ⟨xb_blind, fun _ hU hW => ⟨rfl, xb_pre.at F h isC hC hc hss hU hW⟩⟩ rfl hAs hl hst (lv_room hro) hdg hf) kk
/-- a class as the worlds know it -/
def xb_cf (ci : Nat) (C : String) (T : u_T) (N : Nat) (ty : Nat → FieldType) : Prop := xb_cl[ci]? = some (C, T, N) ∧ (∀ w ∈ u_ws C T N, w ∈ xb_g) ∧ (∀ k, k < N → parseFieldDescriptor (T k).2.2.1 = some (ty k)) ∧ ∀ a, a < N → ∀ b, b < N → a ≠ b → (T a).2.1 ≠ (T b).2.1
theorem xb_get {ci N index a : Nat} {C ow ref nm ds : String} {T : u_T} {ty : Nat → FieldType} {fin : Bool} {fs : List Value} {v : Value} (F : xb_F p s m args c cc nL own G ss A) (h : xb_W G A s ws H locs) (cf : xb_cf ci C T N ty) (q0 : Nat) (he : ws[q0]? = some (a, .inr (ci, fs))) (k : Nat) (hk : k < N) (hT : T k = (ow, nm, ds, fin)) (kl : Cond.fieldLink own index ref nm ds ∈ xb_g) (hsm : ref = ow ∨ Cond.sameField ref ow nm ds ∈ xb_g) (hv : fs[k]? = some v) (hdg : decode cc pc = .ok (.getfield index, 3))
    (kk : W p l e R s m args below meth c H locs cells slots Q (F0 m (pc + 3) ls (v :: rest))) : W p l e R s m args below meth c H locs cells slots Q (F0 m pc ls (.ref a :: rest)) :=
  va_get (ref := ref) F.1.1 F.1.2.1 F.1.2.2.2.2 cf.2.1 F.1.2.2.2.1 F.2.1 h.1 q0 he cf.1 k hk (by rw [hT]; exact F.1.2.2.2.2 _ kl) (fun x hx => by
    rw [hT] at hx ⊢
    rcases hsm with h9 | h9
    · rw [h9]; exact hx
    · exact u_same (F.1.2.2.2.2 _ h9) x hx) hv hdg kk
theorem xb_put {ci N index a : Nat} {C ow ref nm ds : String} {T : u_T} {ty : Nat → FieldType} {fs : List Value} {v : Value} {t0 : FieldType} {ws' : va_W} (F : xb_F p s m args c cc nL own G ss A) (h : xb_W G A s ws H locs) (cf : xb_cf ci C T N ty) (q0 : Nat) (he : ws[q0]? = some (a, .inr (ci, fs))) (k : Nat) (hk : k < N) (hT : T k = (ow, nm, ds, false)) (kl : Cond.fieldLink own index ref nm ds ∈ xb_g) (hsm : ref = ow ∨ Cond.sameField ref ow nm ds ∈ xb_g)
    (hd : parseFieldDescriptor ds = some t0) (hn : narrow t0 v = v) (hfit : fits t0 v = true) (hl : k < fs.length) (hw : ws.set q0 (a, .inr (ci, fs.set k v)) = ws') (hdg : decode cc pc = .ok (.putfield index, 3))
    (kk : ∀ (H1 : Heap) (locs1 : List Loc), xb_W G A s ws' H1 locs1 → W p l e R s m args below meth c H1 locs1 cells slots Q (F0 m (pc + 3) ls rest)) : W p l e R s m args below meth c H locs cells slots Q (F0 m pc ls (v :: .ref a :: rest)) := by
  subst hw
  exact va_put (ref := ref) F.1.1 F.1.2.1 F.1.2.2.2.2 cf.2.1 ty cf.2.2.1 cf.2.2.2 F.1.2.2.2.1 F.2.1 h.1 h.2.1 h.2.2 q0 he cf.1 k hk (by rw [hT]; exact F.1.2.2.2.2 _ kl) (fun x hx => by
    rw [hT] at hx ⊢
    rcases hsm with h9 | h9
    · rw [h9]; exact hx
    · exact u_same (F.1.2.2.2.2 _ h9) x hx) (by rw [hT]) (by rw [hT]; exact hd) hn hfit hl hdg (fun H1 locs1 a b c => kk H1 locs1 ⟨a, b, c⟩)
theorem xb_putF {ci N index a : Nat} {C nm ds : String} {T : u_T} {ty : Nat → FieldType} {fs : List Value} {v : Value} {t0 : FieldType} {ws' : va_W} (F : xb_F p s m args c cc nL own G ss A) (h : xb_W G A s ws H locs) (hin : meth.name = "<init>") (cf : xb_cf ci C T N ty) (q0 : Nat) (he : ws[q0]? = some (a, .inr (ci, fs))) (k : Nat) (hk : k < N) (hT : T k = (own, nm, ds, true)) (kl : Cond.fieldLink own index own nm ds ∈ xb_g)
    (hd : parseFieldDescriptor ds = some t0) (hn : narrow t0 v = v) (hfit : fits t0 v = true) (hl : k < fs.length) (hw : ws.set q0 (a, .inr (ci, fs.set k v)) = ws') (hdg : decode cc pc = .ok (.putfield index, 3))
    (kk : ∀ (H1 : Heap) (locs1 : List Loc), xb_W G A s ws' H1 locs1 → W p l e R s m args below meth c H1 locs1 cells slots Q (F0 m (pc + 3) ls rest)) : W p l e R s m args below meth c H locs cells slots Q (F0 m pc ls (v :: .ref a :: rest)) := by
  subst hw
  exact va_putF (ref := own) F.1.1 F.1.2.1 F.1.2.2.2.2 cf.2.1 ty cf.2.2.1 cf.2.2.2 F.1.2.2.2.1 F.2.1 h.1 h.2.1 h.2.2 q0 he cf.1 k hk (by rw [hT]; exact F.1.2.2.2.2 _ kl) (fun x hx => by rw [hT] at hx ⊢; exact hx) (by rw [hT]) hin (by rw [hT]) (by rw [hT]; exact hd) hn hfit hl hdg (fun H1 locs1 a b c => kk H1 locs1 ⟨a, b, c⟩)
theorem xb_new {ci N index : Nat} {C : String} {T : u_T} {ty : Nat → FieldType} {fs : List Value} {ws' : Nat → va_W} (F : xb_F p s m args c cc nL own G ss A) (h : xb_W G A s ws H locs) (cf : xb_cf ci C T N ty) (k1 : Cond.classLink own index C ∈ xb_g) (k2 : Cond.instantiable C N ∈ xb_g) (k3 : Cond.initialized C ∈ xb_g) (hfs : ∀ j, j < N → defaultValue (ty j) = vp_V fs j) (hw : ∀ q, ws ++ [(q, .inr (ci, fs))] = ws' q) (hc : cells + 1 ≤ R.cells) (hs : slots + N ≤ R.slots) (hdg : decode cc pc = .ok (.new index, 3))
    (kk : ∀ (q : Nat) (H1 : Heap), xb_W G A s (ws' q) H1 locs → W p l e R s m args below meth c H1 locs (cells + 1) (slots + N) Q (F0 m (pc + 3) ls (.ref q :: rest))) : W p l e R s m args below meth c H locs cells slots Q (F0 m pc ls rest) :=
  va_new F.1.1 F.1.2.1 F.1.2.2.2.2 cf.2.1 ty cf.2.2.1 F.1.2.2.2.1 (F.1.2.2.2.2 _ k1) (F.1.2.2.2.2 _ k2) (F.1.2.2.2.2 _ k3) F.2.1 h.1 h.2.1 h.2.2 F.2.2.1 cf.1 hfs hc hs hdg (fun q H1 a b c => kk q H1 (by rw [← hw q]; exact ⟨a, b, c⟩))
theorem xb_RA {U : State} {a b : ClassId} {ty : FieldType} (h1 : va_RA U a ty) (h2 : va_RA U b ty) : a = b := by
  cases ty with
  | object C =>
    obtain ⟨_, _, _, _, _, h1⟩ := h1
    obtain ⟨_, _, _, _, _, h2⟩ := h2
    exact Option.some.inj (h1.symm.trans h2)
  | array t => exact Option.some.inj ((show U.vm.findClass _ = some a from h1).symm.trans (show U.vm.findClass _ = some b from h2))
  | int => exact Option.some.inj ((show U.vm.findClass _ = some a from h1).symm.trans (show U.vm.findClass _ = some b from h2))
  | long => exact Option.some.inj ((show U.vm.findClass _ = some a from h1).symm.trans (show U.vm.findClass _ = some b from h2))
  | float => exact Option.some.inj ((show U.vm.findClass _ = some a from h1).symm.trans (show U.vm.findClass _ = some b from h2))
  | double => exact Option.some.inj ((show U.vm.findClass _ = some a from h1).symm.trans (show U.vm.findClass _ = some b from h2))
  | boolean => exact Option.some.inj ((show U.vm.findClass _ = some a from h1).symm.trans (show U.vm.findClass _ = some b from h2))
  | byte => exact Option.some.inj ((show U.vm.findClass _ = some a from h1).symm.trans (show U.vm.findClass _ = some b from h2))
  | char => exact Option.some.inj ((show U.vm.findClass _ = some a from h1).symm.trans (show U.vm.findClass _ = some b from h2))
  | short => exact Option.some.inj ((show U.vm.findClass _ = some a from h1).symm.trans (show U.vm.findClass _ = some b from h2))
theorem xb_newa {atype : ArrayType} {ty : FieldType} {n : Int32} {N' : Nat} {a0 : vp_A} {cA0 : ClassId} {ws' : Nat → va_W} (F : xb_F p s m args c cc nL own G ss A) (h : xb_W G A s ws H locs) (hty : newarray.typeOf atype = ty) (t0 : Nat) (ht : (xb_ty G.2.1)[t0]? = some (cA0, ty)) (k1 : Cond.arrayClass ty ∈ xb_g) (ha : ∀ cA : ClassId, vp_cell cA a0 = arrV cA N' (fun _ => defaultValue ty)) (hn : ¬ n < 0) (hN : n.toNatClampNeg = N') (hby : N' * componentBytes ty ≤ 536870912) (hw : ∀ q, ws ++ [(q, .inl (cA0, a0))] = ws' q) (hc : cells + 1 ≤ R.cells) (hs : slots + N' ≤ R.slots) (hdg : decode cc pc = .ok (.newarray atype, 2))
    (kk : ∀ (q : Nat) (H1 : Heap), xb_W G A s (ws' q) H1 locs → W p l e R s m args below meth c H1 locs (cells + 1) (slots + N') Q (F0 m (pc + 2) ls (.ref q :: rest))) : W p l e R s m args below meth c H locs cells slots Q (F0 m pc ls (.int n :: rest)) := by
  refine va_newa F.1.1 F.1.2.1 (by rw [hty]; exact F.1.2.2.2.2 _ k1) hty F.2.1 h.1 h.2.1 h.2.2 F.2.2.1 ha hn hN hby hc hs hdg (fun q cA H1 hK1 hP1 hD1 hS1 => ?_)
  have e1 : va_RA s cA ty := (hK1.2 (xb_ty G.2.1).length (cA, ty) (by simp)).2
  have e2 : va_RA s cA0 ty := (F.2.1.2 t0 (cA0, ty) ht).2
  obtain rfl := xb_RA e1 e2
  exact kk q H1 (by rw [← hw q]; exact ⟨hP1, hD1, hS1⟩)
theorem xb_newq {index : Nat} {n : Int32} {N' : Nat} {ws' : Nat → va_W} (F : xb_F p s m args c cc nL own G ss A) (h : xb_W G A s ws H locs) (k1 : Cond.classLink own index "java/lang/Object" ∈ xb_g) (hn : ¬ n < 0) (hN : n.toNatClampNeg = N') (hby : N' * 4 ≤ 536870912) (hw : ∀ q, ws ++ [(q, .inl (G.2.1 5, N', .inr (.inr (.inr (.inr (fun _ => none))))))] = ws' q) (hc : cells + 1 ≤ R.cells) (hs : slots + N' ≤ R.slots) (hdg : decode cc pc = .ok (.anewarray index, 3))
    (kk : ∀ (q : Nat) (H1 : Heap), xb_W G A s (ws' q) H1 locs → W p l e R s m args below meth c H1 locs (cells + 1) (slots + N') Q (F0 m (pc + 3) ls (.ref q :: rest))) : W p l e R s m args below meth c H locs cells slots Q (F0 m pc ls (.int n :: rest)) := by
  refine va_newq F.1.1 F.1.2.1 F.1.2.2.2.1 (F.1.2.2.2.2 _ k1) F.2.2.2.1.2.2.2.2.2.2.2.1 F.2.1 h.1 h.2.1 h.2.2 F.2.2.1 hn hN hby hc hs hdg (fun q cA H1 hK1 hP1 hD1 hS1 => ?_)
  have e1 : va_RA s cA (.object "java/lang/Object") := (hK1.2 (xb_ty G.2.1).length (cA, .object "java/lang/Object") (by simp)).2
  have e2 : va_RA s (G.2.1 5) (.object "java/lang/Object") := (F.2.1.2 5 (G.2.1 5, .object "java/lang/Object") rfl).2
  have e3 : cA = G.2.1 5 := xb_RA e1 e2
  rw [e3] at hP1 hD1
  exact kk q H1 (by rw [← hw q]; exact ⟨hP1, hD1, hS1⟩)
/-- stores into arrays of numbers: exactly, or with contents that nobody asks (F) -/
theorem xb_iast {a n : Nat} {cA : ClassId} {f : Nat → Int32} {i x : Int32} {ws' : va_W} (F : xb_F p s m args c cc nL own G ss A) (h : xb_W G A s ws H locs) (q0 t0 : Nat) (ha : ws[q0]? = some (a, .inl (cA, n, .inl f))) (ht : (xb_ty G.2.1)[t0]? = some (cA, .int)) (hin : vp_in i n) (hw : ws.set q0 (a, .inl (cA, n, .inl (upd f i.toNatClampNeg x))) = ws') (hdg : decode cc pc = .ok (.iastore, 1))
    (kk : ∀ (H1 : Heap) (locs1 : List Loc), xb_W G A s ws' H1 locs1 → W p l e R s m args below meth c H1 locs1 cells slots Q (F0 m (pc + 1) ls rest)) : W p l e R s m args below meth c H locs cells slots Q (F0 m pc ls (.int x :: .int i :: .ref a :: rest)) := by
  subst hw
  exact va_iast F.1.1 F.1.2.1 F.2.1 h.1 h.2.1 h.2.2 q0 t0 ha ht hin hdg (fun H1 locs1 a b c => kk H1 locs1 ⟨a, b, c⟩)
theorem xb_zast {a n : Nat} {cA : ClassId} {f : Nat → Int32} {i x : Int32} {ws' : va_W} (F : xb_F p s m args c cc nL own G ss A) (h : xb_W G A s ws H locs) (q0 t0 : Nat) (ha : ws[q0]? = some (a, .inl (cA, n, .inl f))) (ht : (xb_ty G.2.1)[t0]? = some (cA, .boolean)) (hin : vp_in i n) (hw : ws.set q0 (a, .inl (cA, n, .inl (upd f i.toNatClampNeg (vp_nar .boolean x)))) = ws') (hdg : decode cc pc = .ok (.bastore, 1))
    (kk : ∀ (H1 : Heap) (locs1 : List Loc), xb_W G A s ws' H1 locs1 → W p l e R s m args below meth c H1 locs1 cells slots Q (F0 m (pc + 1) ls rest)) : W p l e R s m args below meth c H locs cells slots Q (F0 m pc ls (.int x :: .int i :: .ref a :: rest)) := by
  subst hw
  exact va_zast F.1.1 F.1.2.1 F.2.1 h.1 h.2.1 h.2.2 q0 t0 ha ht hin hdg (fun H1 locs1 a b c => kk H1 locs1 ⟨a, b, c⟩)
theorem xb_last {a n : Nat} {cA : ClassId} {f : Nat → Int64} {i : Int32} {x : Int64} {ws' : va_W} (F : xb_F p s m args c cc nL own G ss A) (h : xb_W G A s ws H locs) (q0 t0 : Nat) (ha : ws[q0]? = some (a, .inl (cA, n, .inr (.inl f)))) (ht : (xb_ty G.2.1)[t0]? = some (cA, .long)) (hin : vp_in i n) (hw : ws.set q0 (a, .inl (cA, n, .inr (.inl (vp_updL f i.toNatClampNeg x)))) = ws') (hdg : decode cc pc = .ok (.lastore, 1))
    (kk : ∀ (H1 : Heap) (locs1 : List Loc), xb_W G A s ws' H1 locs1 → W p l e R s m args below meth c H1 locs1 cells slots Q (F0 m (pc + 1) ls rest)) : W p l e R s m args below meth c H locs cells slots Q (F0 m pc ls (.long x :: .int i :: .ref a :: rest)) := by
  subst hw
  exact va_last F.1.1 F.1.2.1 F.2.1 h.1 h.2.1 h.2.2 q0 t0 ha ht hin hdg (fun H1 locs1 a b c => kk H1 locs1 ⟨a, b, c⟩)
theorem xb_cast {a n : Nat} {cA : ClassId} {f : Nat → Int32} {i x : Int32} {ws' : va_W} (F : xb_F p s m args c cc nL own G ss A) (h : xb_W G A s ws H locs) (q0 t0 : Nat) (ha : ws[q0]? = some (a, .inl (cA, n, .inl f))) (ht : (xb_ty G.2.1)[t0]? = some (cA, .char)) (hin : vp_in i n) (hw : ws.set q0 (a, .inl (cA, n, .inl (upd f i.toNatClampNeg (vp_nar .char x)))) = ws') (hdg : decode cc pc = .ok (.castore, 1))
    (kk : ∀ (H1 : Heap) (locs1 : List Loc), xb_W G A s ws' H1 locs1 → W p l e R s m args below meth c H1 locs1 cells slots Q (F0 m (pc + 1) ls rest)) : W p l e R s m args below meth c H locs cells slots Q (F0 m pc ls (.int x :: .int i :: .ref a :: rest)) := by
  subst hw
  exact va_cast F.1.1 F.1.2.1 F.2.1 h.1 h.2.1 h.2.2 q0 t0 ha ht hin hdg (fun H1 locs1 a b c => kk H1 locs1 ⟨a, b, c⟩)
theorem xb_iastF {a n : Nat} {cA : ClassId} {f : Nat → Int32} {i x : Int32} {ws' : (Nat → Int32) → va_W} (F : xb_F p s m args c cc nL own G ss A) (h : xb_W G A s ws H locs) (q0 t0 : Nat) (ha : ws[q0]? = some (a, .inl (cA, n, .inl f))) (ht : (xb_ty G.2.1)[t0]? = some (cA, .int)) (hin : vp_in i n) (hw : ∀ g, ws.set q0 (a, .inl (cA, n, .inl g)) = ws' g) (hdg : decode cc pc = .ok (.iastore, 1))
    (kk : ∀ (g : Nat → Int32) (H1 : Heap) (locs1 : List Loc), xb_W G A s (ws' g) H1 locs1 → W p l e R s m args below meth c H1 locs1 cells slots Q (F0 m (pc + 1) ls rest)) : W p l e R s m args below meth c H locs cells slots Q (F0 m pc ls (.int x :: .int i :: .ref a :: rest)) :=
  xb_iast F h q0 t0 ha ht hin (hw _) hdg (kk _)
theorem xb_zastF {a n : Nat} {cA : ClassId} {f : Nat → Int32} {i x : Int32} {ws' : (Nat → Int32) → va_W} (F : xb_F p s m args c cc nL own G ss A) (h : xb_W G A s ws H locs) (q0 t0 : Nat) (ha : ws[q0]? = some (a, .inl (cA, n, .inl f))) (ht : (xb_ty G.2.1)[t0]? = some (cA, .boolean)) (hin : vp_in i n) (hw : ∀ g, ws.set q0 (a, .inl (cA, n, .inl g)) = ws' g) (hdg : decode cc pc = .ok (.bastore, 1))
    (kk : ∀ (g : Nat → Int32) (H1 : Heap) (locs1 : List Loc), xb_W G A s (ws' g) H1 locs1 → W p l e R s m args below meth c H1 locs1 cells slots Q (F0 m (pc + 1) ls rest)) : W p l e R s m args below meth c H locs cells slots Q (F0 m pc ls (.int x :: .int i :: .ref a :: rest)) :=
  xb_zast F h q0 t0 ha ht hin (hw _) hdg (kk _)
theorem xb_lastF {a n : Nat} {cA : ClassId} {f : Nat → Int64} {i : Int32} {x : Int64} {ws' : (Nat → Int64) → va_W} (F : xb_F p s m args c cc nL own G ss A) (h : xb_W G A s ws H locs) (q0 t0 : Nat) (ha : ws[q0]? = some (a, .inl (cA, n, .inr (.inl f)))) (ht : (xb_ty G.2.1)[t0]? = some (cA, .long)) (hin : vp_in i n) (hw : ∀ g, ws.set q0 (a, .inl (cA, n, .inr (.inl g))) = ws' g) (hdg : decode cc pc = .ok (.lastore, 1))
    (kk : ∀ (g : Nat → Int64) (H1 : Heap) (locs1 : List Loc), xb_W G A s (ws' g) H1 locs1 → W p l e R s m args below meth c H1 locs1 cells slots Q (F0 m (pc + 1) ls rest)) : W p l e R s m args below meth c H locs cells slots Q (F0 m pc ls (.long x :: .int i :: .ref a :: rest)) :=
  xb_last F h q0 t0 ha ht hin (hw _) hdg (kk _)
theorem xb_castF {a n : Nat} {cA : ClassId} {f : Nat → Int32} {i x : Int32} {ws' : (Nat → Int32) → va_W} (F : xb_F p s m args c cc nL own G ss A) (h : xb_W G A s ws H locs) (q0 t0 : Nat) (ha : ws[q0]? = some (a, .inl (cA, n, .inl f))) (ht : (xb_ty G.2.1)[t0]? = some (cA, .char)) (hin : vp_in i n) (hw : ∀ g, ws.set q0 (a, .inl (cA, n, .inl g)) = ws' g) (hdg : decode cc pc = .ok (.castore, 1))
    (kk : ∀ (g : Nat → Int32) (H1 : Heap) (locs1 : List Loc), xb_W G A s (ws' g) H1 locs1 → W p l e R s m args below meth c H1 locs1 cells slots Q (F0 m (pc + 1) ls rest)) : W p l e R s m args below meth c H locs cells slots Q (F0 m pc ls (.int x :: .int i :: .ref a :: rest)) :=
  xb_cast F h q0 t0 ha ht hin (hw _) hdg (kk _)
/-- an object into a row of objects -/
theorem xb_aast {a n v ci : Nat} {f : Nat → Option Nat} {vs : List Value} {r : vw_C} {i : Int32} {ws' : va_W} (F : xb_F p s m args c cc nL own G ss A) (h : xb_W G A s ws H locs) (q0 qk : Nat) (ha : ws[q0]? = some (a, .inl (G.2.1 5, n, .inr (.inr (.inr (.inr f)))))) (hca : (r.1, "java/lang/Object") ∈ xb_cs) (hv : ws[qk]? = some (v, .inr (ci, vs))) (hc : xb_cl[ci]? = some r) (hin : vp_in i n) (hw : ws.set q0 (a, .inl (G.2.1 5, n, .inr (.inr (.inr (.inr (va_up f i.toNatClampNeg (some v))))))) = ws') (hdg : decode cc pc = .ok (.aastore, 1))
    (kk : ∀ (H1 : Heap) (locs1 : List Loc), xb_W G A s ws' H1 locs1 → W p l e R s m args below meth c H1 locs1 cells slots Q (F0 m (pc + 1) ls rest)) : W p l e R s m args below meth c H locs cells slots Q (F0 m pc ls (.ref v :: .int i :: .ref a :: rest)) := by
  subst hw
  exact va_astqO F.1.1 F.1.2.1 F.2.1 h.1 h.2.1 h.2.2 q0 5 qk ci ha rfl (F.2.2.2.1.2.2.2.2.2.2.1 _ hca) hv hc hin hdg (fun H1 locs1 a b c => kk H1 locs1 ⟨a, b, c⟩)
/-- fewer cells, by their places -/
theorem xb_subP {ws' : va_W} (hP : xb_P G ws H) (is : List Nat) (hw : is.map (fun i => ws[i]?) = ws'.map some) : xb_P G ws' H := by
  intro k q hk
  obtain ⟨i, hi⟩ : ∃ i : Nat, ws[i]? = some q := by
    have h1 : (ws'.map some)[k]? = some (some q) := by rw [List.getElem?_map, hk]; rfl
    rw [← hw, List.getElem?_map] at h1
    cases h2 : is[k]? with
    | none => rw [h2] at h1; cases h1
    | some i => rw [h2] at h1; exact ⟨i, Option.some.inj h1⟩
  exact hP i q hi
theorem xb_sub {ws' : va_W} (h : xb_W G A s ws H locs) (is : List Nat) (hn : va_nd is = true) (hw : is.map (fun i => ws[i]?) = ws'.map some) : xb_W G A s ws' H locs := ⟨xb_subP h.1 is hw, h.2.1.sub is hn hw, h.2.2⟩
theorem xb_fr {st t : State} (hS : va_S A st.heap H locs) (hA : ∀ q, A q ↔ va_A wc st.heap.size q) (ht : t.heap = H) : va_F (va_A wc st.heap.size) st t := ⟨by rw [ht]; exact hS.1, fun q h1 h2 => by rw [ht]; exact hS.2.1 q h1 (fun z => h2 ((hA q).1 z))⟩
theorem xb_vret {rm : Room} {S : Type} {val : S → Option Value} {post : S → Prop} {w1 : S → va_W} (F : xb_F p s m args c cc nL own G ss A) (hr : meth.sig.returnType = none) (hlk : meth.locks = false) (hA : ∀ q, A q ↔ va_A wc s.heap.size q) (hQ : Q = MQ below (xb_Q G wc s.heap.size val post w1) args s rm.cells rm.slots (va_A wc s.heap.size)) (h : xb_W G A s ws H locs) (u : S) (hu : post u) (hval : val u = none) (is : List Nat) (hn : va_nd is = true) (hw : is.map (fun i => ws[i]?) = (w1 u).map some) (hc : cells ≤ rm.cells) (hs : slots ≤ rm.slots) (hdg : decode cc pc = .ok (.return_, 1)) :
    W p l e R s m args below meth c H locs cells slots Q (F0 m pc ls []) := by
  subst hQ
  exact W.widen hc hs (W.vret F.1.1 F.1.2.1 hr (fun t ht _ => ⟨⟨u, by rw [hval], hu, by rw [ht]; exact xb_subP h.1 is hw, (h.2.1.sub is hn hw).weaken (fun _ _ _ z => (hA _).1 z)⟩, xb_fr h.2.2 hA ht⟩) (fun q hq => (hA _).1 (h.2.2.2.2 q hq)) hdg (hlocks := hlk))
theorem xb_iret {v : Int32} {rm : Room} {S : Type} {val : S → Option Value} {post : S → Prop} {w1 : S → va_W} (F : xb_F p s m args c cc nL own G ss A) (hr : meth.sig.returnType = some .int) (hlk : meth.locks = false) (hA : ∀ q, A q ↔ va_A wc s.heap.size q) (hQ : Q = MQ below (xb_Q G wc s.heap.size val post w1) args s rm.cells rm.slots (va_A wc s.heap.size)) (h : xb_W G A s ws H locs) (u : S) (hu : post u) (hval : val u = some (.int v)) (is : List Nat) (hn : va_nd is = true) (hw : is.map (fun i => ws[i]?) = (w1 u).map some) (hc : cells ≤ rm.cells) (hs : slots ≤ rm.slots) (hdg : decode cc pc = .ok (.ireturn, 1)) :
    W p l e R s m args below meth c H locs cells slots Q (F0 m pc ls [.int v]) := by
  subst hQ
  exact W.widen hc hs (W.iret F.1.1 F.1.2.1 hr (fun t ht _ => ⟨⟨u, by rw [hval], hu, by rw [ht]; exact xb_subP h.1 is hw, (h.2.1.sub is hn hw).weaken (fun _ _ _ z => (hA _).1 z)⟩, xb_fr h.2.2 hA ht⟩) (fun q hq => (hA _).1 (h.2.2.2.2 q hq)) hdg (hlocks := hlk))
theorem xb_zret {v : Int32} {ty : FieldType} {rm : Room} {S : Type} {val : S → Option Value} {post : S → Prop} {w1 : S → va_W} (F : xb_F p s m args c cc nL own G ss A) (hr : meth.sig.returnType = some ty) (hlk : meth.locks = false) (hnar : narrow ty (.int v) = .int v) (hA : ∀ q, A q ↔ va_A wc s.heap.size q) (hQ : Q = MQ below (xb_Q G wc s.heap.size val post w1) args s rm.cells rm.slots (va_A wc s.heap.size)) (h : xb_W G A s ws H locs) (u : S) (hu : post u) (hval : val u = some (.int v)) (is : List Nat) (hn : va_nd is = true) (hw : is.map (fun i => ws[i]?) = (w1 u).map some) (hc : cells ≤ rm.cells) (hs : slots ≤ rm.slots) (hdg : decode cc pc = .ok (.ireturn, 1)) :
    W p l e R s m args below meth c H locs cells slots Q (F0 m pc ls [.int v]) := by
  subst hQ
  exact W.widen hc hs (W.zret F.1.1 F.1.2.1 hr hnar (fun t ht _ => ⟨⟨u, by rw [hval], hu, by rw [ht]; exact xb_subP h.1 is hw, (h.2.1.sub is hn hw).weaken (fun _ _ _ z => (hA _).1 z)⟩, xb_fr h.2.2 hA ht⟩) (fun q hq => (hA _).1 (h.2.2.2.2 q hq)) hdg (hlocks := hlk))
theorem xb_lret {v : Int64} {rm : Room} {S : Type} {val : S → Option Value} {post : S → Prop} {w1 : S → va_W} (F : xb_F p s m args c cc nL own G ss A) (hr : meth.sig.returnType = some .long) (hlk : meth.locks = false) (hA : ∀ q, A q ↔ va_A wc s.heap.size q) (hQ : Q = MQ below (xb_Q G wc s.heap.size val post w1) args s rm.cells rm.slots (va_A wc s.heap.size)) (h : xb_W G A s ws H locs) (u : S) (hu : post u) (hval : val u = some (.long v)) (is : List Nat) (hn : va_nd is = true) (hw : is.map (fun i => ws[i]?) = (w1 u).map some) (hc : cells ≤ rm.cells) (hs : slots ≤ rm.slots) (hdg : decode cc pc = .ok (.lreturn, 1)) :
    W p l e R s m args below meth c H locs cells slots Q (F0 m pc ls [.long v]) := by
  subst hQ
  exact W.widen hc hs (W.lret F.1.1 F.1.2.1 hr (fun t ht _ => ⟨⟨u, by rw [hval], hu, by rw [ht]; exact xb_subP h.1 is hw, (h.2.1.sub is hn hw).weaken (fun _ _ _ z => (hA _).1 z)⟩, xb_fr h.2.2 hA ht⟩) (fun q hq => (hA _).1 (h.2.2.2.2 q hq)) hdg (hlocks := hlk))
theorem xb_aret {v : Value} {rt : FieldType} {rm : Room} {S : Type} {val : S → Option Value} {post : S → Prop} {w1 : S → va_W} (F : xb_F p s m args c cc nL own G ss A) (hr : meth.sig.returnType = some rt) (hrt : (∃ n, rt = .object n) ∨ ∃ t, rt = .array t) (hv : v = .null ∨ ∃ a, v = .ref a) (hlk : meth.locks = false) (hA : ∀ q, A q ↔ va_A wc s.heap.size q) (hQ : Q = MQ below (xb_Q G wc s.heap.size val post w1) args s rm.cells rm.slots (va_A wc s.heap.size)) (h : xb_W G A s ws H locs) (u : S) (hu : post u) (hval : val u = some v) (is : List Nat) (hn : va_nd is = true) (hw : is.map (fun i => ws[i]?) = (w1 u).map some) (hc : cells ≤ rm.cells) (hs : slots ≤ rm.slots) (hdg : decode cc pc = .ok (.areturn, 1)) :
    W p l e R s m args below meth c H locs cells slots Q (F0 m pc ls [v]) := by
  subst hQ
  exact W.widen hc hs (W.aret F.1.1 F.1.2.1 hr hrt hv (fun t ht _ => ⟨⟨u, by rw [hval], hu, by rw [ht]; exact xb_subP h.1 is hw, (h.2.1.sub is hn hw).weaken (fun _ _ _ z => (hA _).1 z)⟩, xb_fr h.2.2 hA ht⟩) (fun q hq => (hA _).1 (h.2.2.2.2 q hq)) hdg (hlocks := hlk))
end XBW
end
section
theorem k_0 : Cond.fieldLink "java/lang/String" 38 "java/lang/String" "COMPACT_STRINGS" "Z" ∈ xb_g := xb_m 68 (by decide +kernel) (by decide)
theorem k_1 : Cond.fieldLink "java/lang/String" 15 "java/lang/String" "coder" "B" ∈ xb_g := xb_m 373 (by decide +kernel) (by decide)
theorem k_2 : Cond.fieldLink "java/lang/String" 9 "java/lang/String" "value" "[B" ∈ xb_g := xb_m 372 (by decide +kernel) (by decide)
set_option maxRecDepth 100000 in
theorem k_3 : Cond.code y_String_coder b_String_coder 1 (some .byte) ∈ xb_g := xb_m 67 (by rfl) (by decide)
theorem k_4 : Cond.initialized "java/lang/String" ∈ xb_g := xb_m 4 (by decide +kernel) (by decide)
theorem k_5 : Cond.methodLink "java/lang/String" 335 y_String_coder ∈ xb_g := xb_m 64 (by decide +kernel) (by decide)
theorem k_6 : Cond.instanceMethod y_String_coder ∈ xb_g := xb_m 65 (by decide +kernel) (by decide)
theorem k_7 : Cond.selects "java/lang/String" y_String_coder y_String_coder ∈ xb_g := xb_m 66 (by decide +kernel) (by decide)
theorem k_8 : Cond.fieldLink "java/lang/String" 1053 "jdk/internal/util/Preconditions" "SIOOBE_FORMATTER" "Ljava/util/function/BiFunction;" ∈ xb_g := xb_m 84 (by decide +kernel) (by decide)
set_option maxRecDepth 100000 in
theorem k_9 : Cond.code y_Preconditions_checkIndex b_Preconditions_checkIndex 3 (some .int) ∈ xb_g := xb_m 88 (by rfl) (by decide)
theorem k_10 : Cond.initialized "jdk/internal/util/Preconditions" ∈ xb_g := xb_m 6 (by decide +kernel) (by decide)
theorem k_11 : Cond.methodLink "java/lang/String" 1059 y_Preconditions_checkIndex ∈ xb_g := xb_m 86 (by decide +kernel) (by decide)
theorem k_12 : Cond.static y_Preconditions_checkIndex ∈ xb_g := xb_m 87 (by decide +kernel) (by decide)
set_option maxRecDepth 100000 in
theorem k_13 : Cond.code y_String_checkIndex b_String_checkIndex 2 none ∈ xb_g := xb_m 83 (by rfl) (by decide)
theorem k_14 : Cond.methodLink "java/lang/StringLatin1" 9 y_String_checkIndex ∈ xb_g := xb_m 81 (by decide +kernel) (by decide)
theorem k_15 : Cond.static y_String_checkIndex ∈ xb_g := xb_m 82 (by decide +kernel) (by decide)
set_option maxRecDepth 100000 in
theorem k_16 : Cond.code y_String_isLatin1 b_String_isLatin1 1 (some .boolean) ∈ xb_g := xb_m 77 (by rfl) (by decide)
theorem k_17 : Cond.methodLink "java/lang/String" 492 y_String_isLatin1 ∈ xb_g := xb_m 74 (by decide +kernel) (by decide)
theorem k_18 : Cond.instanceMethod y_String_isLatin1 ∈ xb_g := xb_m 75 (by decide +kernel) (by decide)
theorem k_19 : Cond.selects "java/lang/String" y_String_isLatin1 y_String_isLatin1 ∈ xb_g := xb_m 76 (by decide +kernel) (by decide)
set_option maxRecDepth 100000 in
theorem k_20 : Cond.code y_StringLatin1_charAt b_StringLatin1_charAt 2 (some .char) ∈ xb_g := xb_m 80 (by rfl) (by decide)
theorem k_21 : Cond.initialized "java/lang/StringLatin1" ∈ xb_g := xb_m 5 (by decide +kernel) (by decide)
theorem k_22 : Cond.methodLink "java/lang/String" 495 y_StringLatin1_charAt ∈ xb_g := xb_m 78 (by decide +kernel) (by decide)
theorem k_23 : Cond.static y_StringLatin1_charAt ∈ xb_g := xb_m 79 (by decide +kernel) (by decide)
theorem k_24 : Cond.methodLink "java/util/AbstractCollection" 1 objectInit ∈ xb_g := xb_m 528 (by decide +kernel) (by decide)
theorem k_25 : Cond.instanceMethod objectInit ∈ xb_g := xb_m 45 (by decide +kernel) (by decide)
set_option maxRecDepth 100000 in
theorem k_26 : Cond.code objectInit ⟨#[0xb1]⟩ 1 none ∈ xb_g := xb_m 46 (by rfl) (by decide)
set_option maxRecDepth 100000 in
theorem k_27 : Cond.code y_AbstractCollection_init b_AbstractCollection_init 1 none ∈ xb_g := xb_m 527 (by rfl) (by decide)
theorem k_28 : Cond.initialized "java/util/AbstractCollection" ∈ xb_g := xb_m 22 (by decide +kernel) (by decide)
theorem k_29 : Cond.methodLink "java/util/AbstractList" 1 y_AbstractCollection_init ∈ xb_g := xb_m 525 (by decide +kernel) (by decide)
theorem k_30 : Cond.instanceMethod y_AbstractCollection_init ∈ xb_g := xb_m 526 (by decide +kernel) (by decide)
theorem k_31 : Cond.fieldLink "java/util/AbstractList" 7 "java/util/AbstractList" "modCount" "I" ∈ xb_g := xb_m 533 (by decide +kernel) (by decide)
set_option maxRecDepth 100000 in
theorem k_32 : Cond.code y_AbstractList_init b_AbstractList_init 1 none ∈ xb_g := xb_m 524 (by rfl) (by decide)
theorem k_33 : Cond.initialized "java/util/AbstractList" ∈ xb_g := xb_m 23 (by decide +kernel) (by decide)
theorem k_34 : Cond.methodLink "java/util/ArrayList" 1 y_AbstractList_init ∈ xb_g := xb_m 522 (by decide +kernel) (by decide)
theorem k_35 : Cond.instanceMethod y_AbstractList_init ∈ xb_g := xb_m 523 (by decide +kernel) (by decide)
theorem k_36 : Cond.fieldLink "java/util/ArrayList" 39 "java/util/ArrayList" "DEFAULTCAPACITY_EMPTY_ELEMENTDATA" "[Ljava/lang/Object;" ∈ xb_g := xb_m 529 (by decide +kernel) (by decide)
theorem k_37 : Cond.fieldLink "java/util/ArrayList" 9 "java/util/ArrayList" "elementData" "[Ljava/lang/Object;" ∈ xb_g := xb_m 531 (by decide +kernel) (by decide)
theorem k_38 : Cond.methodLink "java/util/ArrayList" 79 Lib.Math.max.name ∈ xb_g := xb_m 657 (by decide +kernel) (by decide)
theorem k_39 : Cond.static Lib.Math.max.name ∈ xb_g := xb_m 235 (by decide +kernel) (by decide)
theorem k_40 : Cond.initialized "java/lang/Math" ∈ xb_g := xb_m 17 (by decide +kernel) (by decide)
set_option maxRecDepth 100000 in
theorem k_41 : Cond.code Lib.Math.max.name Lib.Math.max.code 2 (some .int) ∈ xb_g := xb_m 236 (by rfl) (by decide)
theorem k_42 : Cond.classLink "java/util/ArrayList" 7 "java/lang/Object" ∈ xb_g := xb_m 658 (by decide +kernel) (by decide)
theorem k_43 : Cond.fieldLink "java/util/ArrayList" 48 "java/util/ArrayList" "size" "I" ∈ xb_g := xb_m 532 (by decide +kernel) (by decide)
set_option maxRecDepth 100000 in
theorem k_44 : Cond.code y_ArrayList_grow b_ArrayList_grow 4 (some (.array (.object "java/lang/Object"))) ∈ xb_g := xb_m 620 (by rfl) (by decide)
theorem k_45 : Cond.initialized "java/util/ArrayList" ∈ xb_g := xb_m 24 (by decide +kernel) (by decide)
theorem k_46 : Cond.methodLink "java/util/ArrayList" 69 y_ArrayList_grow ∈ xb_g := xb_m 617 (by decide +kernel) (by decide)
theorem k_47 : Cond.instanceMethod y_ArrayList_grow ∈ xb_g := xb_m 619 (by decide +kernel) (by decide)
theorem k_48 : Cond.selects "java/util/ArrayList" y_ArrayList_grow y_ArrayList_grow ∈ xb_g := xb_ms (q := (y_ArrayList_grow, 3)) (by decide +kernel) (by decide)
set_option maxRecDepth 100000 in
theorem k_49 : Cond.code y_ArrayList_grow2 b_ArrayList_grow2 1 (some (.array (.object "java/lang/Object"))) ∈ xb_g := xb_m 616 (by rfl) (by decide)
theorem k_50 : Cond.methodLink "java/util/ArrayList" 129 y_ArrayList_grow2 ∈ xb_g := xb_m 613 (by decide +kernel) (by decide)
theorem k_51 : Cond.instanceMethod y_ArrayList_grow2 ∈ xb_g := xb_m 615 (by decide +kernel) (by decide)
theorem k_52 : Cond.selects "java/util/ArrayList" y_ArrayList_grow2 y_ArrayList_grow2 ∈ xb_g := xb_ms (q := (y_ArrayList_grow2, 3)) (by decide +kernel) (by decide)
theorem k_53 : Cond.sameField "java/util/ArrayList" "java/util/AbstractList" "modCount" "I" ∈ xb_g := xb_m 535 (by decide +kernel) (by decide)
theorem k_54 : Cond.fieldLink "java/util/ArrayList" 63 "java/util/ArrayList" "modCount" "I" ∈ xb_g := xb_m 534 (by decide +kernel) (by decide)
set_option maxRecDepth 100000 in
theorem k_55 : Cond.code y_ArrayList_add b_ArrayList_add 4 none ∈ xb_g := xb_m 612 (by rfl) (by decide)
theorem k_56 : Cond.methodLink "java/util/ArrayList" 131 y_ArrayList_add ∈ xb_g := xb_m 609 (by decide +kernel) (by decide)
theorem k_57 : Cond.instanceMethod y_ArrayList_add ∈ xb_g := xb_m 611 (by decide +kernel) (by decide)
theorem k_58 : Cond.selects "java/util/ArrayList" y_ArrayList_add y_ArrayList_add ∈ xb_g := xb_ms (q := (y_ArrayList_add, 3)) (by decide +kernel) (by decide)
theorem k_59 : Cond.methodLink "java/lang/AbstractStringBuilder" 3 objectInit ∈ xb_g := xb_m 186 (by decide +kernel) (by decide)
theorem k_60 : Cond.fieldLink "java/lang/AbstractStringBuilder" 18 "java/lang/String" "COMPACT_STRINGS" "Z" ∈ xb_g := xb_m 187 (by decide +kernel) (by decide)
theorem k_61 : Cond.arrayClass (.byte) ∈ xb_g := xb_m 212 (by decide +kernel) (by decide)
theorem k_62 : Cond.fieldLink "java/lang/AbstractStringBuilder" 15 "java/lang/AbstractStringBuilder" "value" "[B" ∈ xb_g := xb_m 195 (by decide +kernel) (by decide)
theorem k_63 : Cond.fieldLink "java/lang/AbstractStringBuilder" 22 "java/lang/AbstractStringBuilder" "coder" "B" ∈ xb_g := xb_m 196 (by decide +kernel) (by decide)
set_option maxRecDepth 100000 in
theorem k_64 : Cond.code y_AbstractStringBuilder_init b_AbstractStringBuilder_init 2 none ∈ xb_g := xb_m 185 (by rfl) (by decide)
theorem k_65 : Cond.initialized "java/lang/AbstractStringBuilder" ∈ xb_g := xb_m 13 (by decide +kernel) (by decide)
theorem k_66 : Cond.methodLink "java/lang/StringBuilder" 1 y_AbstractStringBuilder_init ∈ xb_g := xb_m 183 (by decide +kernel) (by decide)
theorem k_67 : Cond.instanceMethod y_AbstractStringBuilder_init ∈ xb_g := xb_m 184 (by decide +kernel) (by decide)
theorem k_68 : Cond.methodLink "TypeFinder$Type" 1 objectInit ∈ xb_g := xb_m 474 (by decide +kernel) (by decide)
theorem k_69 : Cond.fieldLink "TypeFinder$Type" 9 "TypeFinder$Type" "kind" "I" ∈ xb_g := xb_m 475 (by decide +kernel) (by decide)
theorem k_70 : Cond.fieldLink "TypeFinder$Type" 13 "TypeFinder$Type" "data" "LTypeFinder$DataType;" ∈ xb_g := xb_m 482 (by decide +kernel) (by decide)
theorem k_71 : Cond.fieldLink "TypeFinder$Type" 17 "TypeFinder$Type" "left" "LTypeFinder$Type;" ∈ xb_g := xb_m 486 (by decide +kernel) (by decide)
theorem k_72 : Cond.fieldLink "TypeFinder$Type" 21 "TypeFinder$Type" "right" "LTypeFinder$Type;" ∈ xb_g := xb_m 491 (by decide +kernel) (by decide)
theorem k_73 : Cond.methodLink "TypeFinder$Name" 1 objectInit ∈ xb_g := xb_m 588 (by decide +kernel) (by decide)
theorem k_74 : Cond.fieldLink "TypeFinder$Name" 7 "TypeFinder$Name" "word" "J" ∈ xb_g := xb_m 589 (by decide +kernel) (by decide)
theorem k_75 : Cond.fieldLink "TypeFinder$Name" 13 "TypeFinder$Name" "type" "LTypeFinder$Type;" ∈ xb_g := xb_m 592 (by decide +kernel) (by decide)
theorem k_76 : Cond.fieldLink "TypeFinder$Name" 17 "TypeFinder$Name" "general" "Z" ∈ xb_g := xb_m 596 (by decide +kernel) (by decide)
theorem k_77 : Cond.classLink "TypeFinder$Unifier" 22 "TypeFinder$Type" ∈ xb_g := xb_m 664 (by decide +kernel) (by decide)
theorem k_78 : Cond.instantiable "TypeFinder$Type" 8 ∈ xb_g := xb_m 470 (by decide +kernel) (by decide)
theorem k_79 : Cond.initialized "TypeFinder$Type" ∈ xb_g := xb_m 21 (by decide +kernel) (by decide)
set_option maxRecDepth 100000 in
theorem k_80 : Cond.code y_TypeFinder_Type_init b_TypeFinder_Type_init 5 none ∈ xb_g := xb_m 473 (by rfl) (by decide)
theorem k_81 : Cond.methodLink "TypeFinder$Unifier" 24 y_TypeFinder_Type_init ∈ xb_g := xb_m 665 (by decide +kernel) (by decide)
theorem k_82 : Cond.instanceMethod y_TypeFinder_Type_init ∈ xb_g := xb_m 472 (by decide +kernel) (by decide)
theorem k_83 : Cond.methodLink "TypeFinder$DataType" 1 objectInit ∈ xb_g := xb_m 553 (by decide +kernel) (by decide)
theorem k_84 : Cond.classLink "TypeFinder$DataType" 7 "java/util/ArrayList" ∈ xb_g := xb_m 554 (by decide +kernel) (by decide)
theorem k_85 : Cond.instantiable "java/util/ArrayList" 3 ∈ xb_g := xb_m 518 (by decide +kernel) (by decide)
set_option maxRecDepth 100000 in
theorem k_86 : Cond.code y_ArrayList_init b_ArrayList_init 1 none ∈ xb_g := xb_m 521 (by rfl) (by decide)
theorem k_87 : Cond.methodLink "TypeFinder$DataType" 9 y_ArrayList_init ∈ xb_g := xb_m 555 (by decide +kernel) (by decide)
theorem k_88 : Cond.instanceMethod y_ArrayList_init ∈ xb_g := xb_m 520 (by decide +kernel) (by decide)
theorem k_89 : Cond.fieldLink "TypeFinder$DataType" 10 "TypeFinder$DataType" "constructors" "Ljava/util/ArrayList;" ∈ xb_g := xb_m 561 (by decide +kernel) (by decide)
theorem k_90 : Cond.fieldLink "TypeFinder$DataType" 16 "TypeFinder$DataType" "allows" "Z" ∈ xb_g := xb_m 566 (by decide +kernel) (by decide)
theorem k_91 : Cond.fieldLink "TypeFinder$DataType" 20 "TypeFinder$DataType" "word" "J" ∈ xb_g := xb_m 556 (by decide +kernel) (by decide)
theorem k_92 : Cond.fieldLink "TypeFinder$DataType" 24 "TypeFinder$DataType" "parameters" "I" ∈ xb_g := xb_m 559 (by decide +kernel) (by decide)
theorem k_93 : Cond.classLink "TypeFinder$DataType" 11 "TypeFinder$DataType" ∈ xb_g := xb_m 548 (by decide +kernel) (by decide)
theorem k_94 : Cond.instantiable "TypeFinder$DataType" 5 ∈ xb_g := xb_m 549 (by decide +kernel) (by decide)
theorem k_95 : Cond.initialized "TypeFinder$DataType" ∈ xb_g := xb_m 25 (by decide +kernel) (by decide)
set_option maxRecDepth 100000 in
theorem k_96 : Cond.code y_TypeFinder_DataType_init b_TypeFinder_DataType_init 4 none ∈ xb_g := xb_m 552 (by rfl) (by decide)
theorem k_97 : Cond.methodLink "TypeFinder$DataType" 28 y_TypeFinder_DataType_init ∈ xb_g := xb_m 550 (by decide +kernel) (by decide)
theorem k_98 : Cond.instanceMethod y_TypeFinder_DataType_init ∈ xb_g := xb_m 551 (by decide +kernel) (by decide)
theorem k_99 : Cond.classLink "TypeFinder$DataType" 31 "TypeFinder$Type" ∈ xb_g := xb_m 580 (by decide +kernel) (by decide)
theorem k_100 : Cond.methodLink "TypeFinder$DataType" 33 y_TypeFinder_Type_init ∈ xb_g := xb_m 581 (by decide +kernel) (by decide)
theorem k_101 : Cond.fieldLink "TypeFinder$DataType" 36 "TypeFinder$DataType" "whole" "LTypeFinder$Type;" ∈ xb_g := xb_m 565 (by decide +kernel) (by decide)
theorem k_102 : Cond.methodLink "TypeFinder$Unifier" 1 objectInit ∈ xb_g := xb_m 708 (by decide +kernel) (by decide)
theorem k_103 : Cond.classLink "TypeFinder$Unifier" 7 "java/util/ArrayList" ∈ xb_g := xb_m 709 (by decide +kernel) (by decide)
theorem k_104 : Cond.methodLink "TypeFinder$Unifier" 9 y_ArrayList_init ∈ xb_g := xb_m 710 (by decide +kernel) (by decide)
theorem k_105 : Cond.fieldLink "TypeFinder$Unifier" 10 "TypeFinder$Unifier" "todo" "Ljava/util/ArrayList;" ∈ xb_g := xb_m 711 (by decide +kernel) (by decide)
theorem k_106 : Cond.fieldLink "TypeFinder$Unifier" 16 "TypeFinder$Unifier" "open" "Ljava/util/ArrayList;" ∈ xb_g := xb_m 712 (by decide +kernel) (by decide)
theorem k_107 : Cond.fieldLink "TypeFinder$Unifier" 19 "TypeFinder$Unifier" "walk" "Ljava/util/ArrayList;" ∈ xb_g := xb_m 713 (by decide +kernel) (by decide)
theorem k_108 : Cond.methodLink "TypeFinder$Checker" 3 objectInit ∈ xb_g := xb_m 702 (by decide +kernel) (by decide)
theorem k_109 : Cond.classLink "TypeFinder$Checker" 9 "TypeFinder$Unifier" ∈ xb_g := xb_m 703 (by decide +kernel) (by decide)
theorem k_110 : Cond.instantiable "TypeFinder$Unifier" 4 ∈ xb_g := xb_m 704 (by decide +kernel) (by decide)
theorem k_111 : Cond.initialized "TypeFinder$Unifier" ∈ xb_g := xb_m 27 (by decide +kernel) (by decide)
set_option maxRecDepth 100000 in
theorem k_112 : Cond.code y_TypeFinder_Unifier_init b_TypeFinder_Unifier_init 1 none ∈ xb_g := xb_m 707 (by rfl) (by decide)
theorem k_113 : Cond.methodLink "TypeFinder$Checker" 11 y_TypeFinder_Unifier_init ∈ xb_g := xb_m 705 (by decide +kernel) (by decide)
theorem k_114 : Cond.instanceMethod y_TypeFinder_Unifier_init ∈ xb_g := xb_m 706 (by decide +kernel) (by decide)
theorem k_115 : Cond.fieldLink "TypeFinder$Checker" 12 "TypeFinder$Checker" "unifier" "LTypeFinder$Unifier;" ∈ xb_g := xb_m 727 (by decide +kernel) (by decide)
theorem k_116 : Cond.classLink "TypeFinder$Checker" 18 "java/util/ArrayList" ∈ xb_g := xb_m 724 (by decide +kernel) (by decide)
theorem k_117 : Cond.methodLink "TypeFinder$Checker" 20 y_ArrayList_init ∈ xb_g := xb_m 725 (by decide +kernel) (by decide)
theorem k_118 : Cond.fieldLink "TypeFinder$Checker" 21 "TypeFinder$Checker" "scope" "Ljava/util/ArrayList;" ∈ xb_g := xb_m 728 (by decide +kernel) (by decide)
theorem k_119 : Cond.fieldLink "TypeFinder$Checker" 25 "TypeFinder$Checker" "operands" "Ljava/util/ArrayList;" ∈ xb_g := xb_m 729 (by decide +kernel) (by decide)
end
section
theorem k_120 : Cond.fieldLink "TypeFinder$Checker" 28 "TypeFinder$Checker" "known" "LTypeFinder$Known;" ∈ xb_g := xb_m 726 (by decide +kernel) (by decide)
theorem k_121 : Cond.methodLink "TypeFinder$Writer" 3 objectInit ∈ xb_g := xb_m 752 (by decide +kernel) (by decide)
theorem k_122 : Cond.classLink "TypeFinder$Writer" 9 "java/lang/StringBuilder" ∈ xb_g := xb_m 753 (by decide +kernel) (by decide)
theorem k_123 : Cond.instantiable "java/lang/StringBuilder" 4 ∈ xb_g := xb_m 179 (by decide +kernel) (by decide)
theorem k_124 : Cond.initialized "java/lang/StringBuilder" ∈ xb_g := xb_m 14 (by decide +kernel) (by decide)
set_option maxRecDepth 100000 in
theorem k_125 : Cond.code y_StringBuilder_init b_StringBuilder_init 1 none ∈ xb_g := xb_m 182 (by rfl) (by decide)
theorem k_126 : Cond.methodLink "TypeFinder$Writer" 11 y_StringBuilder_init ∈ xb_g := xb_m 754 (by decide +kernel) (by decide)
theorem k_127 : Cond.instanceMethod y_StringBuilder_init ∈ xb_g := xb_m 181 (by decide +kernel) (by decide)
theorem k_128 : Cond.fieldLink "TypeFinder$Writer" 12 "TypeFinder$Writer" "text" "Ljava/lang/StringBuilder;" ∈ xb_g := xb_m 757 (by decide +kernel) (by decide)
theorem k_129 : Cond.classLink "TypeFinder$Writer" 18 "java/util/ArrayList" ∈ xb_g := xb_m 755 (by decide +kernel) (by decide)
theorem k_130 : Cond.methodLink "TypeFinder$Writer" 20 y_ArrayList_init ∈ xb_g := xb_m 756 (by decide +kernel) (by decide)
theorem k_131 : Cond.fieldLink "TypeFinder$Writer" 21 "TypeFinder$Writer" "variables" "Ljava/util/ArrayList;" ∈ xb_g := xb_m 758 (by decide +kernel) (by decide)
theorem k_132 : Cond.methodLink "TypeFinder$DataParser" 3 objectInit ∈ xb_g := xb_m 444 (by decide +kernel) (by decide)
theorem k_133 : Cond.fieldLink "TypeFinder$DataParser" 9 "TypeFinder$DataParser" "tokens" "LTypeFinder$Tokens;" ∈ xb_g := xb_m 445 (by decide +kernel) (by decide)
theorem k_134 : Cond.methodLink "TypeFinder$Known" 3 objectInit ∈ xb_g := xb_m 468 (by decide +kernel) (by decide)
theorem k_135 : Cond.classLink "TypeFinder$Known" 9 "TypeFinder$Type" ∈ xb_g := xb_m 469 (by decide +kernel) (by decide)
theorem k_136 : Cond.methodLink "TypeFinder$Known" 11 y_TypeFinder_Type_init ∈ xb_g := xb_m 471 (by decide +kernel) (by decide)
theorem k_137 : Cond.fieldLink "TypeFinder$Known" 14 "TypeFinder$Known" "integer" "LTypeFinder$Type;" ∈ xb_g := xb_m 678 (by decide +kernel) (by decide)
theorem k_138 : Cond.classLink "TypeFinder$Known" 20 "java/util/ArrayList" ∈ xb_g := xb_m 517 (by decide +kernel) (by decide)
theorem k_139 : Cond.methodLink "TypeFinder$Known" 22 y_ArrayList_init ∈ xb_g := xb_m 519 (by decide +kernel) (by decide)
theorem k_140 : Cond.fieldLink "TypeFinder$Known" 23 "TypeFinder$Known" "dataTypes" "Ljava/util/ArrayList;" ∈ xb_g := xb_m 682 (by decide +kernel) (by decide)
theorem k_141 : Cond.fieldLink "TypeFinder$Known" 27 "TypeFinder$Known" "names" "Ljava/util/ArrayList;" ∈ xb_g := xb_m 684 (by decide +kernel) (by decide)
set_option maxRecDepth 100000 in
theorem k_142 : Cond.code y_TypeFinder_Tokens_packed b_TypeFinder_Tokens_packed 4 (some .long) ∈ xb_g := xb_m 422 (by rfl) (by decide)
theorem k_143 : Cond.initialized "TypeFinder$Tokens" ∈ xb_g := xb_m 3 (by decide +kernel) (by decide)
theorem k_144 : Cond.methodLink "TypeFinder$Known" 32 y_TypeFinder_Tokens_packed ∈ xb_g := xb_m 544 (by decide +kernel) (by decide)
theorem k_145 : Cond.static y_TypeFinder_Tokens_packed ∈ xb_g := xb_m 421 (by decide +kernel) (by decide)
set_option maxRecDepth 100000 in
theorem k_146 : Cond.code y_TypeFinder_DataType_made b_TypeFinder_DataType_made 6 (some (.object "TypeFinder$DataType")) ∈ xb_g := xb_m 547 (by rfl) (by decide)
theorem k_147 : Cond.methodLink "TypeFinder$Known" 38 y_TypeFinder_DataType_made ∈ xb_g := xb_m 545 (by decide +kernel) (by decide)
theorem k_148 : Cond.static y_TypeFinder_DataType_made ∈ xb_g := xb_m 546 (by decide +kernel) (by decide)
theorem k_149 : Cond.fieldLink "TypeFinder$Known" 44 "TypeFinder$DataType" "whole" "LTypeFinder$Type;" ∈ xb_g := xb_m 564 (by decide +kernel) (by decide)
theorem k_150 : Cond.fieldLink "TypeFinder$Known" 47 "TypeFinder$Known" "truth" "LTypeFinder$Type;" ∈ xb_g := xb_m 680 (by decide +kernel) (by decide)
theorem k_151 : Cond.fieldLink "TypeFinder$Known" 50 "TypeFinder$DataType" "constructors" "Ljava/util/ArrayList;" ∈ xb_g := xb_m 562 (by decide +kernel) (by decide)
theorem k_152 : Cond.classLink "TypeFinder$Known" 53 "TypeFinder$Name" ∈ xb_g := xb_m 582 (by decide +kernel) (by decide)
theorem k_153 : Cond.instantiable "TypeFinder$Name" 3 ∈ xb_g := xb_m 583 (by decide +kernel) (by decide)
theorem k_154 : Cond.initialized "TypeFinder$Name" ∈ xb_g := xb_m 26 (by decide +kernel) (by decide)
set_option maxRecDepth 100000 in
theorem k_155 : Cond.code y_TypeFinder_Name_init b_TypeFinder_Name_init 5 none ∈ xb_g := xb_m 587 (by rfl) (by decide)
theorem k_156 : Cond.methodLink "TypeFinder$Known" 57 y_TypeFinder_Name_init ∈ xb_g := xb_m 585 (by decide +kernel) (by decide)
theorem k_157 : Cond.instanceMethod y_TypeFinder_Name_init ∈ xb_g := xb_m 586 (by decide +kernel) (by decide)
set_option maxRecDepth 100000 in
theorem k_158 : Cond.code y_ArrayList_add2 b_ArrayList_add2 2 (some .boolean) ∈ xb_g := xb_m 608 (by rfl) (by decide)
theorem k_159 : Cond.methodLink "TypeFinder$Known" 60 y_ArrayList_add2 ∈ xb_g := xb_m 605 (by decide +kernel) (by decide)
theorem k_160 : Cond.instanceMethod y_ArrayList_add2 ∈ xb_g := xb_m 606 (by decide +kernel) (by decide)
theorem k_161 : Cond.selects "java/util/ArrayList" y_ArrayList_add2 y_ArrayList_add2 ∈ xb_g := xb_m 607 (by decide +kernel) (by decide)
theorem k_162 : Cond.fieldLink "TypeFinder$Known" 68 "TypeFinder$Type" "left" "LTypeFinder$Type;" ∈ xb_g := xb_m 487 (by decide +kernel) (by decide)
set_option maxRecDepth 100000 in
theorem k_163 : Cond.code y_TypeFinder_Unifier_function b_TypeFinder_Unifier_function 2 (some (.object "TypeFinder$Type")) ∈ xb_g := xb_m 663 (by rfl) (by decide)
theorem k_164 : Cond.methodLink "TypeFinder$Known" 71 y_TypeFinder_Unifier_function ∈ xb_g := xb_m 661 (by decide +kernel) (by decide)
theorem k_165 : Cond.static y_TypeFinder_Unifier_function ∈ xb_g := xb_m 662 (by decide +kernel) (by decide)
theorem k_166 : Cond.constantLong "TypeFinder$Known" 79 (58) ∈ xb_g := xb_m 667 (by decide +kernel) (by decide)
theorem k_167 : Cond.constantLong "TypeFinder$Known" 81 (43) ∈ xb_g := xb_m 668 (by decide +kernel) (by decide)
theorem k_168 : Cond.constantLong "TypeFinder$Known" 83 (45) ∈ xb_g := xb_m 669 (by decide +kernel) (by decide)
theorem k_169 : Cond.constantLong "TypeFinder$Known" 85 (42) ∈ xb_g := xb_m 670 (by decide +kernel) (by decide)
theorem k_170 : Cond.constantLong "TypeFinder$Known" 87 (47) ∈ xb_g := xb_m 671 (by decide +kernel) (by decide)
theorem k_171 : Cond.constantLong "TypeFinder$Known" 89 (60) ∈ xb_g := xb_m 672 (by decide +kernel) (by decide)
theorem k_172 : Cond.fieldLink "TypeFinder$Known" 91 "TypeFinder$Type" "comparable" "Z" ∈ xb_g := xb_m 479 (by decide +kernel) (by decide)
theorem k_173 : Cond.constantLong "TypeFinder$Known" 95 (63) ∈ xb_g := xb_m 673 (by decide +kernel) (by decide)
set_option maxRecDepth 100000 in
theorem k_174 : Cond.code y_ArrayList_size b_ArrayList_size 1 (some .int) ∈ xb_g := xb_m 677 (by rfl) (by decide)
theorem k_175 : Cond.methodLink "TypeFinder$Known" 97 y_ArrayList_size ∈ xb_g := xb_m 674 (by decide +kernel) (by decide)
theorem k_176 : Cond.instanceMethod y_ArrayList_size ∈ xb_g := xb_m 675 (by decide +kernel) (by decide)
theorem k_177 : Cond.selects "java/util/ArrayList" y_ArrayList_size y_ArrayList_size ∈ xb_g := xb_m 676 (by decide +kernel) (by decide)
theorem k_178 : Cond.fieldLink "TypeFinder$Known" 101 "TypeFinder$Known" "firstNames" "I" ∈ xb_g := xb_m 685 (by decide +kernel) (by decide)
theorem k_179 : Cond.methodLink "TypeFinder$Parser" 3 objectInit ∈ xb_g := xb_m 52 (by decide +kernel) (by decide)
theorem k_180 : Cond.classLink "TypeFinder$Parser" 9 "TypeFinder$Tokens" ∈ xb_g := xb_m 53 (by decide +kernel) (by decide)
theorem k_181 : Cond.instantiable "TypeFinder$Tokens" 5 ∈ xb_g := xb_m 54 (by decide +kernel) (by decide)
set_option maxRecDepth 100000 in
theorem k_182 : Cond.code y_TypeFinder_Tokens_init b_TypeFinder_Tokens_init 4 none ∈ xb_g := xb_m 57 (by rfl) (by decide)
theorem k_183 : Cond.methodLink "TypeFinder$Parser" 11 y_TypeFinder_Tokens_init ∈ xb_g := xb_m 55 (by decide +kernel) (by decide)
theorem k_184 : Cond.instanceMethod y_TypeFinder_Tokens_init ∈ xb_g := xb_m 56 (by decide +kernel) (by decide)
theorem k_185 : Cond.fieldLink "TypeFinder$Parser" 12 "TypeFinder$Parser" "tokens" "LTypeFinder$Tokens;" ∈ xb_g := xb_m 449 (by decide +kernel) (by decide)
theorem k_186 : Cond.classLink "TypeFinder$Parser" 18 "TypeFinder$DataParser" ∈ xb_g := xb_m 439 (by decide +kernel) (by decide)
theorem k_187 : Cond.instantiable "TypeFinder$DataParser" 1 ∈ xb_g := xb_m 440 (by decide +kernel) (by decide)
theorem k_188 : Cond.initialized "TypeFinder$DataParser" ∈ xb_g := xb_m 19 (by decide +kernel) (by decide)
set_option maxRecDepth 100000 in
theorem k_189 : Cond.code y_TypeFinder_DataParser_init b_TypeFinder_DataParser_init 2 none ∈ xb_g := xb_m 443 (by rfl) (by decide)
theorem k_190 : Cond.methodLink "TypeFinder$Parser" 20 y_TypeFinder_DataParser_init ∈ xb_g := xb_m 441 (by decide +kernel) (by decide)
theorem k_191 : Cond.instanceMethod y_TypeFinder_DataParser_init ∈ xb_g := xb_m 442 (by decide +kernel) (by decide)
theorem k_192 : Cond.fieldLink "TypeFinder$Parser" 23 "TypeFinder$Parser" "dataParser" "LTypeFinder$DataParser;" ∈ xb_g := xb_m 450 (by decide +kernel) (by decide)
theorem k_193 : Cond.arrayClass (.int) ∈ xb_g := xb_m 210 (by decide +kernel) (by decide)
theorem k_194 : Cond.fieldLink "TypeFinder$Parser" 27 "TypeFinder$Parser" "levels" "[I" ∈ xb_g := xb_m 451 (by decide +kernel) (by decide)
theorem k_195 : Cond.arrayClass (.boolean) ∈ xb_g := xb_m 462 (by decide +kernel) (by decide)
theorem k_196 : Cond.fieldLink "TypeFinder$Parser" 31 "TypeFinder$Parser" "rights" "[Z" ∈ xb_g := xb_m 452 (by decide +kernel) (by decide)
theorem k_197 : Cond.methodLink "TypeFinder" 1 objectInit ∈ xb_g := xb_m 44 (by decide +kernel) (by decide)
theorem k_198 : Cond.arrayClass (.char) ∈ xb_g := xb_m 209 (by decide +kernel) (by decide)
theorem k_199 : Cond.fieldLink "TypeFinder" 9 "TypeFinder" "draft" "[C" ∈ xb_g := xb_m 764 (by decide +kernel) (by decide)
theorem k_200 : Cond.classLink "TypeFinder" 13 "TypeFinder$Parser" ∈ xb_g := xb_m 47 (by decide +kernel) (by decide)
theorem k_201 : Cond.instantiable "TypeFinder$Parser" 4 ∈ xb_g := xb_m 48 (by decide +kernel) (by decide)
theorem k_202 : Cond.initialized "TypeFinder$Parser" ∈ xb_g := xb_m 2 (by decide +kernel) (by decide)
set_option maxRecDepth 100000 in
theorem k_203 : Cond.code y_TypeFinder_Parser_init b_TypeFinder_Parser_init 1 none ∈ xb_g := xb_m 51 (by rfl) (by decide)
theorem k_204 : Cond.methodLink "TypeFinder" 15 y_TypeFinder_Parser_init ∈ xb_g := xb_m 49 (by decide +kernel) (by decide)
theorem k_205 : Cond.instanceMethod y_TypeFinder_Parser_init ∈ xb_g := xb_m 50 (by decide +kernel) (by decide)
theorem k_206 : Cond.fieldLink "TypeFinder" 16 "TypeFinder" "parser" "LTypeFinder$Parser;" ∈ xb_g := xb_m 765 (by decide +kernel) (by decide)
theorem k_207 : Cond.classLink "TypeFinder" 20 "TypeFinder$Known" ∈ xb_g := xb_m 463 (by decide +kernel) (by decide)
theorem k_208 : Cond.instantiable "TypeFinder$Known" 5 ∈ xb_g := xb_m 464 (by decide +kernel) (by decide)
theorem k_209 : Cond.initialized "TypeFinder$Known" ∈ xb_g := xb_m 20 (by decide +kernel) (by decide)
set_option maxRecDepth 100000 in
theorem k_210 : Cond.code y_TypeFinder_Known_init b_TypeFinder_Known_init 6 none ∈ xb_g := xb_m 467 (by rfl) (by decide)
theorem k_211 : Cond.methodLink "TypeFinder" 22 y_TypeFinder_Known_init ∈ xb_g := xb_m 465 (by decide +kernel) (by decide)
theorem k_212 : Cond.instanceMethod y_TypeFinder_Known_init ∈ xb_g := xb_m 466 (by decide +kernel) (by decide)
theorem k_213 : Cond.fieldLink "TypeFinder" 23 "TypeFinder" "known" "LTypeFinder$Known;" ∈ xb_g := xb_m 766 (by decide +kernel) (by decide)
theorem k_214 : Cond.classLink "TypeFinder" 27 "TypeFinder$Checker" ∈ xb_g := xb_m 697 (by decide +kernel) (by decide)
theorem k_215 : Cond.instantiable "TypeFinder$Checker" 6 ∈ xb_g := xb_m 698 (by decide +kernel) (by decide)
theorem k_216 : Cond.initialized "TypeFinder$Checker" ∈ xb_g := xb_m 28 (by decide +kernel) (by decide)
set_option maxRecDepth 100000 in
theorem k_217 : Cond.code y_TypeFinder_Checker_init b_TypeFinder_Checker_init 2 none ∈ xb_g := xb_m 701 (by rfl) (by decide)
theorem k_218 : Cond.methodLink "TypeFinder" 29 y_TypeFinder_Checker_init ∈ xb_g := xb_m 699 (by decide +kernel) (by decide)
theorem k_219 : Cond.instanceMethod y_TypeFinder_Checker_init ∈ xb_g := xb_m 700 (by decide +kernel) (by decide)
theorem k_220 : Cond.fieldLink "TypeFinder" 32 "TypeFinder" "checker" "LTypeFinder$Checker;" ∈ xb_g := xb_m 767 (by decide +kernel) (by decide)
theorem k_221 : Cond.classLink "TypeFinder" 36 "TypeFinder$Writer" ∈ xb_g := xb_m 747 (by decide +kernel) (by decide)
theorem k_222 : Cond.instantiable "TypeFinder$Writer" 2 ∈ xb_g := xb_m 748 (by decide +kernel) (by decide)
theorem k_223 : Cond.initialized "TypeFinder$Writer" ∈ xb_g := xb_m 29 (by decide +kernel) (by decide)
set_option maxRecDepth 100000 in
theorem k_224 : Cond.code y_TypeFinder_Writer_init b_TypeFinder_Writer_init 1 none ∈ xb_g := xb_m 751 (by rfl) (by decide)
theorem k_225 : Cond.methodLink "TypeFinder" 38 y_TypeFinder_Writer_init ∈ xb_g := xb_m 749 (by decide +kernel) (by decide)
theorem k_226 : Cond.instanceMethod y_TypeFinder_Writer_init ∈ xb_g := xb_m 750 (by decide +kernel) (by decide)
theorem k_227 : Cond.fieldLink "TypeFinder" 39 "TypeFinder" "writer" "LTypeFinder$Writer;" ∈ xb_g := xb_m 768 (by decide +kernel) (by decide)
theorem k_228 : Cond.fieldLink "TypeFinderModel" 30 "TypeFinderModel" "nameOf" "[I" ∈ xb_g := xb_m 1608 (by decide +kernel) (by decide)
theorem k_229 : Cond.fieldLink "TypeFinderModel" 33 "TypeFinderModel" "rowSize" "[I" ∈ xb_g := xb_m 1609 (by decide +kernel) (by decide)
theorem k_230 : Cond.fieldLink "TypeFinderModel" 36 "TypeFinderModel" "rows" "[I" ∈ xb_g := xb_m 1610 (by decide +kernel) (by decide)
theorem k_231 : Cond.methodLink "TypeFinderModel" 1 objectInit ∈ xb_g := xb_m 1583 (by decide +kernel) (by decide)
theorem k_232 : Cond.fieldLink "TypeFinderModel" 7 "TypeFinderModel" "draft" "[I" ∈ xb_g := xb_m 1601 (by decide +kernel) (by decide)
theorem k_233 : Cond.fieldLink "TypeFinderModel" 13 "TypeFinderModel" "sign" "[I" ∈ xb_g := xb_m 1603 (by decide +kernel) (by decide)
theorem k_234 : Cond.fieldLink "TypeFinderModel" 16 "TypeFinderModel" "worth" "[I" ∈ xb_g := xb_m 1604 (by decide +kernel) (by decide)
theorem k_235 : Cond.fieldLink "TypeFinderModel" 19 "TypeFinderModel" "level" "[I" ∈ xb_g := xb_m 1605 (by decide +kernel) (by decide)
theorem k_236 : Cond.fieldLink "TypeFinderModel" 22 "TypeFinderModel" "rightly" "[Z" ∈ xb_g := xb_m 1606 (by decide +kernel) (by decide)
theorem k_237 : Cond.fieldLink "TypeFinderModel" 26 "TypeFinderModel" "names" "I" ∈ xb_g := xb_m 1607 (by decide +kernel) (by decide)
theorem k_238 : Cond.fieldLink "TypeFinderModel" 39 "TypeFinderModel" "datas" "I" ∈ xb_g := xb_m 1611 (by decide +kernel) (by decide)
theorem k_239 : Cond.fieldLink "TypeFinderModel" 42 "TypeFinderModel" "dataWord" "[I" ∈ xb_g := xb_m 1612 (by decide +kernel) (by decide)
end
section
theorem k_240 : Cond.fieldLink "TypeFinderModel" 45 "TypeFinderModel" "parameters" "[I" ∈ xb_g := xb_m 1613 (by decide +kernel) (by decide)
theorem k_241 : Cond.fieldLink "TypeFinderModel" 48 "TypeFinderModel" "alternatives" "[I" ∈ xb_g := xb_m 1614 (by decide +kernel) (by decide)
theorem k_242 : Cond.fieldLink "TypeFinderModel" 51 "TypeFinderModel" "allows" "[Z" ∈ xb_g := xb_m 1615 (by decide +kernel) (by decide)
theorem k_243 : Cond.fieldLink "TypeFinderModel" 54 "TypeFinderModel" "constructors" "I" ∈ xb_g := xb_m 1616 (by decide +kernel) (by decide)
theorem k_244 : Cond.fieldLink "TypeFinderModel" 57 "TypeFinderModel" "constructorWord" "[I" ∈ xb_g := xb_m 1617 (by decide +kernel) (by decide)
theorem k_245 : Cond.fieldLink "TypeFinderModel" 60 "TypeFinderModel" "constructorData" "[I" ∈ xb_g := xb_m 1618 (by decide +kernel) (by decide)
theorem k_246 : Cond.fieldLink "TypeFinderModel" 63 "TypeFinderModel" "constructorParts" "[I" ∈ xb_g := xb_m 1619 (by decide +kernel) (by decide)
theorem k_247 : Cond.fieldLink "TypeFinderModel" 66 "TypeFinderModel" "constructorSize" "[I" ∈ xb_g := xb_m 1620 (by decide +kernel) (by decide)
theorem k_248 : Cond.fieldLink "TypeFinderModel" 69 "TypeFinderModel" "constructorRow" "[I" ∈ xb_g := xb_m 1621 (by decide +kernel) (by decide)
theorem k_249 : Cond.fieldLink "TypeFinderModel" 72 "TypeFinderModel" "step" "[I" ∈ xb_g := xb_m 1625 (by decide +kernel) (by decide)
theorem k_250 : Cond.fieldLink "TypeFinderModel" 75 "TypeFinderModel" "one" "[I" ∈ xb_g := xb_m 1626 (by decide +kernel) (by decide)
theorem k_251 : Cond.fieldLink "TypeFinderModel" 78 "TypeFinderModel" "two" "[I" ∈ xb_g := xb_m 1627 (by decide +kernel) (by decide)
theorem k_252 : Cond.fieldLink "TypeFinderModel" 81 "TypeFinderModel" "open" "[I" ∈ xb_g := xb_m 1629 (by decide +kernel) (by decide)
theorem k_253 : Cond.fieldLink "TypeFinderModel" 84 "TypeFinderModel" "deep" "[I" ∈ xb_g := xb_m 1630 (by decide +kernel) (by decide)
theorem k_254 : Cond.fieldLink "TypeFinderModel" 87 "TypeFinderModel" "first" "[I" ∈ xb_g := xb_m 1631 (by decide +kernel) (by decide)
theorem k_255 : Cond.fieldLink "TypeFinderModel" 90 "TypeFinderModel" "second" "[I" ∈ xb_g := xb_m 1632 (by decide +kernel) (by decide)
theorem k_256 : Cond.fieldLink "TypeFinderModel" 93 "TypeFinderModel" "third" "[I" ∈ xb_g := xb_m 1633 (by decide +kernel) (by decide)
theorem k_257 : Cond.fieldLink "TypeFinderModel" 96 "TypeFinderModel" "flags" "[I" ∈ xb_g := xb_m 1634 (by decide +kernel) (by decide)
theorem k_258 : Cond.fieldLink "TypeFinderModel" 99 "TypeFinderModel" "waits" "[I" ∈ xb_g := xb_m 1639 (by decide +kernel) (by decide)
theorem k_259 : Cond.fieldLink "TypeFinderModel" 102 "TypeFinderModel" "kind" "[I" ∈ xb_g := xb_m 1641 (by decide +kernel) (by decide)
theorem k_260 : Cond.fieldLink "TypeFinderModel" 105 "TypeFinderModel" "left" "[I" ∈ xb_g := xb_m 1642 (by decide +kernel) (by decide)
theorem k_261 : Cond.fieldLink "TypeFinderModel" 108 "TypeFinderModel" "right" "[I" ∈ xb_g := xb_m 1643 (by decide +kernel) (by decide)
theorem k_262 : Cond.fieldLink "TypeFinderModel" 111 "TypeFinderModel" "seen" "[I" ∈ xb_g := xb_m 1644 (by decide +kernel) (by decide)
theorem k_263 : Cond.fieldLink "TypeFinderModel" 114 "TypeFinderModel" "copied" "[I" ∈ xb_g := xb_m 1645 (by decide +kernel) (by decide)
theorem k_264 : Cond.fieldLink "TypeFinderModel" 117 "TypeFinderModel" "piled" "[I" ∈ xb_g := xb_m 1648 (by decide +kernel) (by decide)
theorem k_265 : Cond.fieldLink "TypeFinderModel" 120 "TypeFinderModel" "also" "[I" ∈ xb_g := xb_m 1649 (by decide +kernel) (by decide)
theorem k_266 : Cond.fieldLink "TypeFinderModel" 123 "TypeFinderModel" "hold" "[I" ∈ xb_g := xb_m 1651 (by decide +kernel) (by decide)
theorem k_267 : Cond.fieldLink "TypeFinderModel" 126 "TypeFinderModel" "boundWord" "[I" ∈ xb_g := xb_m 1653 (by decide +kernel) (by decide)
theorem k_268 : Cond.fieldLink "TypeFinderModel" 129 "TypeFinderModel" "boundType" "[I" ∈ xb_g := xb_m 1654 (by decide +kernel) (by decide)
theorem k_269 : Cond.fieldLink "TypeFinderModel" 132 "TypeFinderModel" "found" "[I" ∈ xb_g := xb_m 1656 (by decide +kernel) (by decide)
theorem k_270 : Cond.fieldLink "TypeFinderModel" 135 "TypeFinderModel" "firstPattern" "[I" ∈ xb_g := xb_m 1657 (by decide +kernel) (by decide)
theorem k_271 : Cond.fieldLink "TypeFinderModel" 138 "TypeFinderModel" "patternKind" "[I" ∈ xb_g := xb_m 1659 (by decide +kernel) (by decide)
theorem k_272 : Cond.fieldLink "TypeFinderModel" 141 "TypeFinderModel" "patternOf" "[I" ∈ xb_g := xb_m 1660 (by decide +kernel) (by decide)
theorem k_273 : Cond.fieldLink "TypeFinderModel" 144 "TypeFinderModel" "matched" "[I" ∈ xb_g := xb_m 1664 (by decide +kernel) (by decide)
theorem k_274 : Cond.fieldLink "TypeFinderModel" 147 "TypeFinderModel" "text" "[I" ∈ xb_g := xb_m 1666 (by decide +kernel) (by decide)
theorem k_275 : Cond.fieldLink "TypeFinderModel" 150 "TypeFinderModel" "piece" "[I" ∈ xb_g := xb_m 1671 (by decide +kernel) (by decide)
theorem k_276 : Cond.fieldLink "TypeFinderModel" 153 "TypeFinderModel" "pieceWord" "[I" ∈ xb_g := xb_m 1672 (by decide +kernel) (by decide)
theorem k_277 : Cond.fieldLink "TypeFinderModel" 156 "TypeFinderModel" "pieceParts" "[I" ∈ xb_g := xb_m 1673 (by decide +kernel) (by decide)
theorem k_278 : Cond.fieldLink "TypeFinderModel" 159 "TypeFinderModel" "parameterWord" "[I" ∈ xb_g := xb_m 1674 (by decide +kernel) (by decide)
theorem k_279 : Cond.fieldLink "TypeFinderModel" 162 "TypeFinderModel" "choiceWord" "[I" ∈ xb_g := xb_m 1676 (by decide +kernel) (by decide)
theorem k_280 : Cond.fieldLink "TypeFinderModel" 165 "TypeFinderModel" "choiceParts" "[I" ∈ xb_g := xb_m 1677 (by decide +kernel) (by decide)
set_option maxRecDepth 100000 in
theorem k_281 : Cond.code y_TypeFinderModel_setName b_TypeFinderModel_setName 7 none ∈ xb_g := xb_m 1587 (by rfl) (by decide)
theorem k_282 : Cond.initialized "TypeFinderModel" ∈ xb_g := xb_m 30 (by decide +kernel) (by decide)
theorem k_283 : Cond.methodLink "TypeFinderModel" 168 y_TypeFinderModel_setName ∈ xb_g := xb_m 1584 (by decide +kernel) (by decide)
theorem k_284 : Cond.instanceMethod y_TypeFinderModel_setName ∈ xb_g := xb_m 1586 (by decide +kernel) (by decide)
theorem k_285 : Cond.selects "TypeFinderModel" y_TypeFinderModel_setName y_TypeFinderModel_setName ∈ xb_g := xb_ms (q := (y_TypeFinderModel_setName, 80)) (by decide +kernel) (by decide)
theorem k_286 : Cond.constantLong "TypeFinderModel" 172 (1819242338) ∈ xb_g := xb_m 1588 (by decide +kernel) (by decide)
set_option maxRecDepth 100000 in
theorem k_287 : Cond.code y_TypeFinderModel_wordOf b_TypeFinderModel_wordOf 4 (some .int) ∈ xb_g := xb_m 1591 (by rfl) (by decide)
theorem k_288 : Cond.methodLink "TypeFinderModel" 174 y_TypeFinderModel_wordOf ∈ xb_g := xb_m 1589 (by decide +kernel) (by decide)
theorem k_289 : Cond.static y_TypeFinderModel_wordOf ∈ xb_g := xb_m 1590 (by decide +kernel) (by decide)
theorem k_290 : Cond.constantLong "TypeFinderModel" 178 (1953720684) ∈ xb_g := xb_m 1594 (by decide +kernel) (by decide)
theorem k_291 : Cond.constantLong "TypeFinderModel" 180 (1702195796) ∈ xb_g := xb_m 1595 (by decide +kernel) (by decide)
theorem k_292 : Cond.constantLong "TypeFinderModel" 182 (435728179526) ∈ xb_g := xb_m 1596 (by decide +kernel) (by decide)
theorem k_293 : Cond.constantLong "TypeFinderModel" 184 (7104846) ∈ xb_g := xb_m 1597 (by decide +kernel) (by decide)
theorem k_294 : Cond.fieldLink "TypeFinder" 47 "TypeFinder" "length" "I" ∈ xb_g := xb_m 769 (by decide +kernel) (by decide)
theorem k_295 : Cond.fieldLink "TypeFinder" 51 "TypeFinder" "refusals" "I" ∈ xb_g := xb_m 770 (by decide +kernel) (by decide)
theorem k_296 : Cond.fieldLink "TypeFinder$Tokens" 42 "TypeFinder$Tokens" "size" "I" ∈ xb_g := xb_m 426 (by decide +kernel) (by decide)
theorem k_297 : Cond.fieldLink "TypeFinder$Tokens" 9 "TypeFinder$Tokens" "kinds" "[I" ∈ xb_g := xb_m 423 (by decide +kernel) (by decide)
theorem k_298 : Cond.fieldLink "TypeFinder$Tokens" 15 "TypeFinder$Tokens" "values" "[J" ∈ xb_g := xb_m 424 (by decide +kernel) (by decide)
theorem k_299 : Cond.fieldLink "TypeFinder$Tokens" 46 "TypeFinder$Tokens" "at" "I" ∈ xb_g := xb_m 427 (by decide +kernel) (by decide)
set_option maxRecDepth 100000 in
theorem k_300 : Cond.code y_TypeFinder_Tokens_put b_TypeFinder_Tokens_put 4 none ∈ xb_g := xb_m 1080 (by rfl) (by decide)
theorem k_301 : Cond.methodLink "TypeFinder$Tokens" 63 y_TypeFinder_Tokens_put ∈ xb_g := xb_m 1077 (by decide +kernel) (by decide)
theorem k_302 : Cond.instanceMethod y_TypeFinder_Tokens_put ∈ xb_g := xb_m 1079 (by decide +kernel) (by decide)
theorem k_303 : Cond.selects "TypeFinder$Tokens" y_TypeFinder_Tokens_put y_TypeFinder_Tokens_put ∈ xb_g := xb_ms (q := (y_TypeFinder_Tokens_put, 5)) (by decide +kernel) (by decide)
theorem k_304 : Cond.classLink "TypeFinder$Tokens" 74 "java/lang/IllegalArgumentException" ∈ xb_g := xb_m 1062 (by decide +kernel) (by decide)
theorem k_305 : Cond.instantiable "java/lang/IllegalArgumentException" 6 ∈ xb_g := xb_m 135 (by decide +kernel) (by decide)
theorem k_306 : Cond.initialized "java/lang/IllegalArgumentException" ∈ xb_g := xb_m 12 (by decide +kernel) (by decide)
set_option maxRecDepth 100000 in
theorem k_307 : Cond.code y_TypeFinder_Tokens_take b_TypeFinder_Tokens_take 4 (some .long) ∈ xb_g := xb_m 1109 (by rfl) (by decide)
theorem k_308 : Cond.methodLink "TypeFinder$Parser" 66 y_TypeFinder_Tokens_take ∈ xb_g := xb_m 1194 (by decide +kernel) (by decide)
theorem k_309 : Cond.instanceMethod y_TypeFinder_Tokens_take ∈ xb_g := xb_m 1107 (by decide +kernel) (by decide)
theorem k_310 : Cond.selects "TypeFinder$Tokens" y_TypeFinder_Tokens_take y_TypeFinder_Tokens_take ∈ xb_g := xb_m 1108 (by decide +kernel) (by decide)
set_option maxRecDepth 100000 in
theorem k_311 : Cond.code y_TypeFinder_Tokens_read b_TypeFinder_Tokens_read 7 none ∈ xb_g := xb_m 1051 (by rfl) (by decide)
theorem k_312 : Cond.methodLink "TypeFinder$Parser" 43 y_TypeFinder_Tokens_read ∈ xb_g := xb_m 1048 (by decide +kernel) (by decide)
theorem k_313 : Cond.instanceMethod y_TypeFinder_Tokens_read ∈ xb_g := xb_m 1049 (by decide +kernel) (by decide)
theorem k_314 : Cond.selects "TypeFinder$Tokens" y_TypeFinder_Tokens_read y_TypeFinder_Tokens_read ∈ xb_g := xb_m 1050 (by decide +kernel) (by decide)
set_option maxRecDepth 100000 in
theorem k_315 : Cond.code y_TypeFinder_Tokens_accept b_TypeFinder_Tokens_accept 2 (some .boolean) ∈ xb_g := xb_m 1099 (by rfl) (by decide)
theorem k_316 : Cond.methodLink "TypeFinder$Parser" 47 y_TypeFinder_Tokens_accept ∈ xb_g := xb_m 1096 (by decide +kernel) (by decide)
theorem k_317 : Cond.instanceMethod y_TypeFinder_Tokens_accept ∈ xb_g := xb_m 1097 (by decide +kernel) (by decide)
theorem k_318 : Cond.selects "TypeFinder$Tokens" y_TypeFinder_Tokens_accept y_TypeFinder_Tokens_accept ∈ xb_g := xb_m 1098 (by decide +kernel) (by decide)
set_option maxRecDepth 100000 in
theorem k_319 : Cond.code y_TypeFinder_Tokens_kindBehind b_TypeFinder_Tokens_kindBehind 1 (some .int) ∈ xb_g := xb_m 1184 (by rfl) (by decide)
theorem k_320 : Cond.methodLink "TypeFinder$Parser" 55 y_TypeFinder_Tokens_kindBehind ∈ xb_g := xb_m 1189 (by decide +kernel) (by decide)
theorem k_321 : Cond.instanceMethod y_TypeFinder_Tokens_kindBehind ∈ xb_g := xb_m 1182 (by decide +kernel) (by decide)
theorem k_322 : Cond.selects "TypeFinder$Tokens" y_TypeFinder_Tokens_kindBehind y_TypeFinder_Tokens_kindBehind ∈ xb_g := xb_m 1183 (by decide +kernel) (by decide)
set_option maxRecDepth 100000 in
theorem k_323 : Cond.code y_TypeFinder_Parser_definition b_TypeFinder_Parser_definition 8 (some (.object "TypeFinder$Node")) ∈ xb_g := xb_m 1216 (by rfl) (by decide)
theorem k_324 : Cond.methodLink "TypeFinder$Parser" 62 y_TypeFinder_Parser_definition ∈ xb_g := xb_m 1213 (by decide +kernel) (by decide)
theorem k_325 : Cond.instanceMethod y_TypeFinder_Parser_definition ∈ xb_g := xb_m 1215 (by decide +kernel) (by decide)
theorem k_326 : Cond.selects "TypeFinder$Parser" y_TypeFinder_Parser_definition y_TypeFinder_Parser_definition ∈ xb_g := xb_ms (q := (y_TypeFinder_Parser_definition, 4)) (by decide +kernel) (by decide)
set_option maxRecDepth 100000 in
theorem k_327 : Cond.code y_TypeFinder_Tokens_is b_TypeFinder_Tokens_is 2 (some .boolean) ∈ xb_g := xb_m 1146 (by rfl) (by decide)
theorem k_328 : Cond.methodLink "TypeFinder$Parser" 86 y_TypeFinder_Tokens_is ∈ xb_g := xb_m 1217 (by decide +kernel) (by decide)
theorem k_329 : Cond.instanceMethod y_TypeFinder_Tokens_is ∈ xb_g := xb_m 1144 (by decide +kernel) (by decide)
theorem k_330 : Cond.selects "TypeFinder$Tokens" y_TypeFinder_Tokens_is y_TypeFinder_Tokens_is ∈ xb_g := xb_m 1145 (by decide +kernel) (by decide)
set_option maxRecDepth 100000 in
theorem k_331 : Cond.code y_TypeFinder_Parser_atom b_TypeFinder_Parser_atom 4 (some (.object "TypeFinder$Node")) ∈ xb_g := xb_m 1254 (by rfl) (by decide)
theorem k_332 : Cond.methodLink "TypeFinder$Parser" 148 y_TypeFinder_Parser_atom ∈ xb_g := xb_m 1251 (by decide +kernel) (by decide)
theorem k_333 : Cond.instanceMethod y_TypeFinder_Parser_atom ∈ xb_g := xb_m 1253 (by decide +kernel) (by decide)
theorem k_334 : Cond.selects "TypeFinder$Parser" y_TypeFinder_Parser_atom y_TypeFinder_Parser_atom ∈ xb_g := xb_ms (q := (y_TypeFinder_Parser_atom, 4)) (by decide +kernel) (by decide)
set_option maxRecDepth 100000 in
theorem k_335 : Cond.code y_TypeFinder_Parser_application b_TypeFinder_Parser_application 5 (some (.object "TypeFinder$Node")) ∈ xb_g := xb_m 1250 (by rfl) (by decide)
theorem k_336 : Cond.methodLink "TypeFinder$Parser" 123 y_TypeFinder_Parser_application ∈ xb_g := xb_m 1247 (by decide +kernel) (by decide)
theorem k_337 : Cond.instanceMethod y_TypeFinder_Parser_application ∈ xb_g := xb_m 1249 (by decide +kernel) (by decide)
theorem k_338 : Cond.selects "TypeFinder$Parser" y_TypeFinder_Parser_application y_TypeFinder_Parser_application ∈ xb_g := xb_ms (q := (y_TypeFinder_Parser_application, 4)) (by decide +kernel) (by decide)
set_option maxRecDepth 100000 in
theorem k_339 : Cond.code y_TypeFinder_Parser_chain b_TypeFinder_Parser_chain 7 (some (.object "TypeFinder$Node")) ∈ xb_g := xb_m 1246 (by rfl) (by decide)
theorem k_340 : Cond.methodLink "TypeFinder$Parser" 104 y_TypeFinder_Parser_chain ∈ xb_g := xb_m 1243 (by decide +kernel) (by decide)
theorem k_341 : Cond.instanceMethod y_TypeFinder_Parser_chain ∈ xb_g := xb_m 1245 (by decide +kernel) (by decide)
theorem k_342 : Cond.selects "TypeFinder$Parser" y_TypeFinder_Parser_chain y_TypeFinder_Parser_chain ∈ xb_g := xb_ms (q := (y_TypeFinder_Parser_chain, 4)) (by decide +kernel) (by decide)
set_option maxRecDepth 100000 in
theorem k_343 : Cond.code y_TypeFinder_Parser_expression b_TypeFinder_Parser_expression 2 (some (.object "TypeFinder$Node")) ∈ xb_g := xb_m 1201 (by rfl) (by decide)
theorem k_344 : Cond.methodLink "TypeFinder$Parser" 70 y_TypeFinder_Parser_expression ∈ xb_g := xb_m 1198 (by decide +kernel) (by decide)
theorem k_345 : Cond.instanceMethod y_TypeFinder_Parser_expression ∈ xb_g := xb_m 1200 (by decide +kernel) (by decide)
theorem k_346 : Cond.selects "TypeFinder$Parser" y_TypeFinder_Parser_expression y_TypeFinder_Parser_expression ∈ xb_g := xb_ms (q := (y_TypeFinder_Parser_expression, 4)) (by decide +kernel) (by decide)
set_option maxRecDepth 100000 in
theorem k_347 : Cond.code y_TypeFinder_takeDraft b_TypeFinder_takeDraft 2 (some .int) ∈ xb_g := xb_m 1043 (by rfl) (by decide)
theorem k_348 : Cond.initialized "TypeFinder" ∈ xb_g := xb_m 1 (by decide +kernel) (by decide)
theorem k_349 : Cond.methodLink "TypeFinder" 54 y_TypeFinder_takeDraft ∈ xb_g := xb_m 1040 (by decide +kernel) (by decide)
theorem k_350 : Cond.instanceMethod y_TypeFinder_takeDraft ∈ xb_g := xb_m 1042 (by decide +kernel) (by decide)
theorem k_351 : Cond.selects "TypeFinder" y_TypeFinder_takeDraft y_TypeFinder_takeDraft ∈ xb_g := xb_ms (q := (y_TypeFinder_takeDraft, 9)) (by decide +kernel) (by decide)
set_option maxRecDepth 100000 in
theorem k_352 : Cond.code y_TypeFinder_Parser_declaration b_TypeFinder_Parser_declaration 4 (some (.object "TypeFinder$Node")) ∈ xb_g := xb_m 1047 (by rfl) (by decide)
theorem k_353 : Cond.methodLink "TypeFinder" 58 y_TypeFinder_Parser_declaration ∈ xb_g := xb_m 1044 (by decide +kernel) (by decide)
theorem k_354 : Cond.instanceMethod y_TypeFinder_Parser_declaration ∈ xb_g := xb_m 1045 (by decide +kernel) (by decide)
theorem k_355 : Cond.selects "TypeFinder$Parser" y_TypeFinder_Parser_declaration y_TypeFinder_Parser_declaration ∈ xb_g := xb_m 1046 (by decide +kernel) (by decide)
set_option maxRecDepth 100000 in
theorem k_356 : Cond.code y_TypeFinder_Parser_question b_TypeFinder_Parser_question 4 (some (.object "TypeFinder$Node")) ∈ xb_g := xb_m 1573 (by rfl) (by decide)
theorem k_357 : Cond.methodLink "TypeFinder" 85 y_TypeFinder_Parser_question ∈ xb_g := xb_m 1570 (by decide +kernel) (by decide)
theorem k_358 : Cond.instanceMethod y_TypeFinder_Parser_question ∈ xb_g := xb_m 1571 (by decide +kernel) (by decide)
theorem k_359 : Cond.selects "TypeFinder$Parser" y_TypeFinder_Parser_question y_TypeFinder_Parser_question ∈ xb_g := xb_m 1572 (by decide +kernel) (by decide)
end
section
set_option maxRecDepth 100000 in
theorem k_360 : Cond.code y_Preconditions_checkFromToIndex b_Preconditions_checkFromToIndex 4 (some .int) ∈ xb_g := xb_m 118 (by rfl) (by decide)
theorem k_361 : Cond.methodLink "java/lang/String" 1062 y_Preconditions_checkFromToIndex ∈ xb_g := xb_m 116 (by decide +kernel) (by decide)
theorem k_362 : Cond.static y_Preconditions_checkFromToIndex ∈ xb_g := xb_m 117 (by decide +kernel) (by decide)
set_option maxRecDepth 100000 in
theorem k_363 : Cond.code y_Arrays_checkLength b_Arrays_checkLength 2 none ∈ xb_g := xb_m 133 (by rfl) (by decide)
theorem k_364 : Cond.initialized "java/util/Arrays" ∈ xb_g := xb_m 8 (by decide +kernel) (by decide)
theorem k_365 : Cond.methodLink "java/util/Arrays" 343 y_Arrays_checkLength ∈ xb_g := xb_m 131 (by decide +kernel) (by decide)
theorem k_366 : Cond.static y_Arrays_checkLength ∈ xb_g := xb_m 132 (by decide +kernel) (by decide)
theorem k_367 : Cond.methodLink "java/util/Arrays" 304 Lib.Math.min.name ∈ xb_g := xb_m 252 (by decide +kernel) (by decide)
theorem k_368 : Cond.static Lib.Math.min.name ∈ xb_g := xb_m 253 (by decide +kernel) (by decide)
set_option maxRecDepth 100000 in
theorem k_369 : Cond.code Lib.Math.min.name Lib.Math.min.code 2 (some .int) ∈ xb_g := xb_m 254 (by rfl) (by decide)
theorem k_370 : Cond.methodLink "java/util/Arrays" 150 arraycopyName ∈ xb_g := xb_m 255 (by decide +kernel) (by decide)
theorem k_371 : Cond.native arraycopyName ∈ xb_g := xb_m 257 (by decide +kernel) (by decide)
theorem k_372 : Cond.static arraycopyName ∈ xb_g := xb_m 256 (by decide +kernel) (by decide)
theorem k_373 : Cond.initialized "java/lang/System" ∈ xb_g := xb_m 18 (by decide +kernel) (by decide)
set_option maxRecDepth 100000 in
theorem k_374 : Cond.code y_Arrays_copyOfRangeByte b_Arrays_copyOfRangeByte 5 (some (.array .byte)) ∈ xb_g := xb_m 130 (by rfl) (by decide)
theorem k_375 : Cond.methodLink "java/util/Arrays" 339 y_Arrays_copyOfRangeByte ∈ xb_g := xb_m 128 (by decide +kernel) (by decide)
theorem k_376 : Cond.static y_Arrays_copyOfRangeByte ∈ xb_g := xb_m 129 (by decide +kernel) (by decide)
theorem k_377 : Cond.methodLink "java/lang/String" 1 objectInit ∈ xb_g := xb_m 346 (by decide +kernel) (by decide)
theorem k_378 : Cond.classLink "java/lang/StringLatin1" 1 "java/lang/String" ∈ xb_g := xb_m 123 (by decide +kernel) (by decide)
theorem k_379 : Cond.instantiable "java/lang/String" 4 ∈ xb_g := xb_m 124 (by decide +kernel) (by decide)
set_option maxRecDepth 100000 in
theorem k_380 : Cond.code y_Arrays_copyOfRange b_Arrays_copyOfRange 3 (some (.array .byte)) ∈ xb_g := xb_m 127 (by rfl) (by decide)
theorem k_381 : Cond.methodLink "java/lang/StringLatin1" 232 y_Arrays_copyOfRange ∈ xb_g := xb_m 125 (by decide +kernel) (by decide)
theorem k_382 : Cond.static y_Arrays_copyOfRange ∈ xb_g := xb_m 126 (by decide +kernel) (by decide)
set_option maxRecDepth 100000 in
theorem k_383 : Cond.code y_String_init b_String_init 3 none ∈ xb_g := xb_m 410 (by rfl) (by decide)
theorem k_384 : Cond.methodLink "java/lang/StringLatin1" 112 y_String_init ∈ xb_g := xb_m 408 (by decide +kernel) (by decide)
theorem k_385 : Cond.instanceMethod y_String_init ∈ xb_g := xb_m 409 (by decide +kernel) (by decide)
set_option maxRecDepth 100000 in
theorem k_386 : Cond.code y_StringLatin1_newString b_StringLatin1_newString 3 (some (.object "java/lang/String")) ∈ xb_g := xb_m 121 (by rfl) (by decide)
theorem k_387 : Cond.methodLink "java/lang/String" 685 y_StringLatin1_newString ∈ xb_g := xb_m 119 (by decide +kernel) (by decide)
theorem k_388 : Cond.static y_StringLatin1_newString ∈ xb_g := xb_m 120 (by decide +kernel) (by decide)
set_option maxRecDepth 100000 in
theorem k_389 : Cond.code y_String_length b_String_length 1 (some .int) ∈ xb_g := xb_m 63 (by rfl) (by decide)
theorem k_390 : Cond.methodLink "java/lang/String" 505 y_String_length ∈ xb_g := xb_m 112 (by decide +kernel) (by decide)
theorem k_391 : Cond.instanceMethod y_String_length ∈ xb_g := xb_m 61 (by decide +kernel) (by decide)
theorem k_392 : Cond.selects "java/lang/String" y_String_length y_String_length ∈ xb_g := xb_m 62 (by decide +kernel) (by decide)
set_option maxRecDepth 100000 in
theorem k_393 : Cond.code y_String_checkBoundsBeginEnd b_String_checkBoundsBeginEnd 3 none ∈ xb_g := xb_m 115 (by rfl) (by decide)
theorem k_394 : Cond.methodLink "java/lang/String" 521 y_String_checkBoundsBeginEnd ∈ xb_g := xb_m 113 (by decide +kernel) (by decide)
theorem k_395 : Cond.static y_String_checkBoundsBeginEnd ∈ xb_g := xb_m 114 (by decide +kernel) (by decide)
theorem k_396 : Cond.methodLink "TypeFinder$Tokens" 24 y_String_length ∈ xb_g := xb_m 60 (by decide +kernel) (by decide)
set_option maxRecDepth 100000 in
theorem k_397 : Cond.code y_String_charAt b_String_charAt 2 (some .char) ∈ xb_g := xb_m 73 (by rfl) (by decide)
theorem k_398 : Cond.methodLink "TypeFinder$Tokens" 30 y_String_charAt ∈ xb_g := xb_m 70 (by decide +kernel) (by decide)
theorem k_399 : Cond.instanceMethod y_String_charAt ∈ xb_g := xb_m 71 (by decide +kernel) (by decide)
theorem k_400 : Cond.selects "java/lang/String" y_String_charAt y_String_charAt ∈ xb_g := xb_m 72 (by decide +kernel) (by decide)
theorem k_401 : Cond.constantLong "TypeFinderModel" 186 (255) ∈ xb_g := xb_m 1592 (by decide +kernel) (by decide)
theorem k_402 : Cond.constantLong "TypeFinderModel" 188 (31) ∈ xb_g := xb_m 1593 (by decide +kernel) (by decide)
theorem k_403 : Cond.methodLink "TypeFinder$Tokens" 3 objectInit ∈ xb_g := xb_m 58 (by decide +kernel) (by decide)
theorem k_404 : Cond.arrayClass (.long) ∈ xb_g := xb_m 211 (by decide +kernel) (by decide)
theorem k_405 : Cond.fieldLink "TypeFinder$Tokens" 19 "TypeFinder$Tokens" "keywords" "[J" ∈ xb_g := xb_m 425 (by decide +kernel) (by decide)
set_option maxRecDepth 100000 in
theorem k_406 : Cond.code y_String_substring b_String_substring 5 (some (.object "java/lang/String")) ∈ xb_g := xb_m 111 (by rfl) (by decide)
theorem k_407 : Cond.methodLink "TypeFinder$Tokens" 34 y_String_substring ∈ xb_g := xb_m 108 (by decide +kernel) (by decide)
theorem k_408 : Cond.instanceMethod y_String_substring ∈ xb_g := xb_m 109 (by decide +kernel) (by decide)
theorem k_409 : Cond.selects "java/lang/String" y_String_substring y_String_substring ∈ xb_g := xb_m 110 (by decide +kernel) (by decide)
theorem k_410 : Cond.methodLink "TypeFinder$Tokens" 38 y_TypeFinder_Tokens_packed ∈ xb_g := xb_m 420 (by decide +kernel) (by decide)
theorem k_411 : Cond.fieldLink "TypeFinderModel" 190 "TypeFinderModel" "code" "I" ∈ xb_g := xb_m 1598 (by decide +kernel) (by decide)
theorem k_412 : Cond.fieldLink "TypeFinderModel" 495 "TypeFinderModel" "failures" "I" ∈ xb_g := xb_m 1599 (by decide +kernel) (by decide)
theorem k_413 : Cond.fieldLink "TypeFinderModel" 196 "TypeFinderModel" "signs" "I" ∈ xb_g := xb_m 1602 (by decide +kernel) (by decide)
theorem k_414 : Cond.fieldLink "TypeFinderModel" 230 "TypeFinderModel" "bad" "Z" ∈ xb_g := xb_m 1623 (by decide +kernel) (by decide)
theorem k_415 : Cond.fieldLink "TypeFinderModel" 193 "TypeFinderModel" "drafted" "I" ∈ xb_g := xb_m 1600 (by decide +kernel) (by decide)
set_option maxRecDepth 100000 in
theorem k_416 : Cond.code y_TypeFinderModel_put b_TypeFinderModel_put 3 none ∈ xb_g := xb_m 1891 (by rfl) (by decide)
theorem k_417 : Cond.methodLink "TypeFinderModel" 237 y_TypeFinderModel_put ∈ xb_g := xb_m 1888 (by decide +kernel) (by decide)
theorem k_418 : Cond.instanceMethod y_TypeFinderModel_put ∈ xb_g := xb_m 1890 (by decide +kernel) (by decide)
theorem k_419 : Cond.selects "TypeFinderModel" y_TypeFinderModel_put y_TypeFinderModel_put ∈ xb_g := xb_ms (q := (y_TypeFinderModel_put, 80)) (by decide +kernel) (by decide)
theorem k_420 : Cond.fieldLink "TypeFinderModel" 256 "TypeFinderModel" "at" "I" ∈ xb_g := xb_m 1622 (by decide +kernel) (by decide)
set_option maxRecDepth 100000 in
theorem k_421 : Cond.code y_TypeFinderModel_split b_TypeFinderModel_split 4 none ∈ xb_g := xb_m 1860 (by rfl) (by decide)
theorem k_422 : Cond.methodLink "TypeFinderModel" 498 y_TypeFinderModel_split ∈ xb_g := xb_m 1857 (by decide +kernel) (by decide)
theorem k_423 : Cond.instanceMethod y_TypeFinderModel_split ∈ xb_g := xb_m 1859 (by decide +kernel) (by decide)
theorem k_424 : Cond.selects "TypeFinderModel" y_TypeFinderModel_split y_TypeFinderModel_split ∈ xb_g := xb_ms (q := (y_TypeFinderModel_split, 80)) (by decide +kernel) (by decide)
theorem k_425 : Cond.fieldLink "TypeFinderModel" 271 "TypeFinderModel" "steps" "I" ∈ xb_g := xb_m 1624 (by decide +kernel) (by decide)
set_option maxRecDepth 100000 in
theorem k_426 : Cond.code y_TypeFinderModel_begin b_TypeFinderModel_begin 1 (some .boolean) ∈ xb_g := xb_m 1856 (by rfl) (by decide)
theorem k_427 : Cond.methodLink "TypeFinderModel" 501 y_TypeFinderModel_begin ∈ xb_g := xb_m 1853 (by decide +kernel) (by decide)
theorem k_428 : Cond.instanceMethod y_TypeFinderModel_begin ∈ xb_g := xb_m 1855 (by decide +kernel) (by decide)
theorem k_429 : Cond.selects "TypeFinderModel" y_TypeFinderModel_begin y_TypeFinderModel_begin ∈ xb_g := xb_ms (q := (y_TypeFinderModel_begin, 80)) (by decide +kernel) (by decide)
set_option maxRecDepth 100000 in
theorem k_430 : Cond.code y_TypeFinderModel_peek b_TypeFinderModel_peek 1 (some .int) ∈ xb_g := xb_m 1916 (by rfl) (by decide)
theorem k_431 : Cond.methodLink "TypeFinderModel" 263 y_TypeFinderModel_peek ∈ xb_g := xb_m 1913 (by decide +kernel) (by decide)
theorem k_432 : Cond.instanceMethod y_TypeFinderModel_peek ∈ xb_g := xb_m 1915 (by decide +kernel) (by decide)
theorem k_433 : Cond.selects "TypeFinderModel" y_TypeFinderModel_peek y_TypeFinderModel_peek ∈ xb_g := xb_ms (q := (y_TypeFinderModel_peek, 80)) (by decide +kernel) (by decide)
theorem k_434 : Cond.fieldLink "TypeFinderModel" 519 "TypeFinderModel" "defined" "I" ∈ xb_g := xb_m 1667 (by decide +kernel) (by decide)
set_option maxRecDepth 100000 in
theorem k_435 : Cond.code y_TypeFinderModel_expect b_TypeFinderModel_expect 2 none ∈ xb_g := xb_m 1924 (by rfl) (by decide)
theorem k_436 : Cond.methodLink "TypeFinderModel" 267 y_TypeFinderModel_expect ∈ xb_g := xb_m 1921 (by decide +kernel) (by decide)
theorem k_437 : Cond.instanceMethod y_TypeFinderModel_expect ∈ xb_g := xb_m 1923 (by decide +kernel) (by decide)
theorem k_438 : Cond.selects "TypeFinderModel" y_TypeFinderModel_expect y_TypeFinderModel_expect ∈ xb_g := xb_ms (q := (y_TypeFinderModel_expect, 80)) (by decide +kernel) (by decide)
set_option maxRecDepth 100000 in
theorem k_439 : Cond.code y_TypeFinderModel_heading b_TypeFinderModel_heading 4 (some .int) ∈ xb_g := xb_m 2236 (by rfl) (by decide)
theorem k_440 : Cond.methodLink "TypeFinderModel" 525 y_TypeFinderModel_heading ∈ xb_g := xb_m 2233 (by decide +kernel) (by decide)
theorem k_441 : Cond.instanceMethod y_TypeFinderModel_heading ∈ xb_g := xb_m 2235 (by decide +kernel) (by decide)
theorem k_442 : Cond.selects "TypeFinderModel" y_TypeFinderModel_heading y_TypeFinderModel_heading ∈ xb_g := xb_ms (q := (y_TypeFinderModel_heading, 80)) (by decide +kernel) (by decide)
set_option maxRecDepth 100000 in
theorem k_443 : Cond.code y_TypeFinderModel_refuse b_TypeFinderModel_refuse 2 (some .int) ∈ xb_g := xb_m 1996 (by rfl) (by decide)
theorem k_444 : Cond.methodLink "TypeFinderModel" 507 y_TypeFinderModel_refuse ∈ xb_g := xb_m 1993 (by decide +kernel) (by decide)
theorem k_445 : Cond.instanceMethod y_TypeFinderModel_refuse ∈ xb_g := xb_m 1995 (by decide +kernel) (by decide)
theorem k_446 : Cond.selects "TypeFinderModel" y_TypeFinderModel_refuse y_TypeFinderModel_refuse ∈ xb_g := xb_ms (q := (y_TypeFinderModel_refuse, 80)) (by decide +kernel) (by decide)
theorem k_447 : Cond.fieldLink "TypeFinderModel" 274 "TypeFinderModel" "opened" "I" ∈ xb_g := xb_m 1628 (by decide +kernel) (by decide)
theorem k_448 : Cond.fieldLink "TypeFinderModel" 277 "TypeFinderModel" "depth" "I" ∈ xb_g := xb_m 1635 (by decide +kernel) (by decide)
theorem k_449 : Cond.fieldLink "TypeFinderModel" 283 "TypeFinderModel" "state" "I" ∈ xb_g := xb_m 1637 (by decide +kernel) (by decide)
theorem k_450 : Cond.fieldLink "TypeFinderModel" 289 "TypeFinderModel" "waiting" "I" ∈ xb_g := xb_m 1638 (by decide +kernel) (by decide)
set_option maxRecDepth 100000 in
theorem k_451 : Cond.code y_TypeFinderModel_within b_TypeFinderModel_within 2 none ∈ xb_g := xb_m 1936 (by rfl) (by decide)
theorem k_452 : Cond.methodLink "TypeFinderModel" 280 y_TypeFinderModel_within ∈ xb_g := xb_m 1933 (by decide +kernel) (by decide)
theorem k_453 : Cond.instanceMethod y_TypeFinderModel_within ∈ xb_g := xb_m 1935 (by decide +kernel) (by decide)
theorem k_454 : Cond.selects "TypeFinderModel" y_TypeFinderModel_within y_TypeFinderModel_within ∈ xb_g := xb_ms (q := (y_TypeFinderModel_within, 80)) (by decide +kernel) (by decide)
set_option maxRecDepth 100000 in
theorem k_455 : Cond.code y_TypeFinderModel_enter b_TypeFinderModel_enter 4 none ∈ xb_g := xb_m 1932 (by rfl) (by decide)
theorem k_456 : Cond.methodLink "TypeFinderModel" 308 y_TypeFinderModel_enter ∈ xb_g := xb_m 1929 (by decide +kernel) (by decide)
theorem k_457 : Cond.instanceMethod y_TypeFinderModel_enter ∈ xb_g := xb_m 1931 (by decide +kernel) (by decide)
theorem k_458 : Cond.selects "TypeFinderModel" y_TypeFinderModel_enter y_TypeFinderModel_enter ∈ xb_g := xb_ms (q := (y_TypeFinderModel_enter, 80)) (by decide +kernel) (by decide)
set_option maxRecDepth 100000 in
theorem k_459 : Cond.code y_TypeFinderModel_beginExpression b_TypeFinderModel_beginExpression 3 none ∈ xb_g := xb_m 1912 (by rfl) (by decide)
theorem k_460 : Cond.methodLink "TypeFinderModel" 292 y_TypeFinderModel_beginExpression ∈ xb_g := xb_m 1909 (by decide +kernel) (by decide)
theorem k_461 : Cond.instanceMethod y_TypeFinderModel_beginExpression ∈ xb_g := xb_m 1911 (by decide +kernel) (by decide)
theorem k_462 : Cond.selects "TypeFinderModel" y_TypeFinderModel_beginExpression y_TypeFinderModel_beginExpression ∈ xb_g := xb_ms (q := (y_TypeFinderModel_beginExpression, 80)) (by decide +kernel) (by decide)
set_option maxRecDepth 100000 in
theorem k_463 : Cond.code y_TypeFinderModel_atom b_TypeFinderModel_atom 2 (some .boolean) ∈ xb_g := xb_m 1948 (by rfl) (by decide)
theorem k_464 : Cond.methodLink "TypeFinderModel" 314 y_TypeFinderModel_atom ∈ xb_g := xb_m 1945 (by decide +kernel) (by decide)
theorem k_465 : Cond.instanceMethod y_TypeFinderModel_atom ∈ xb_g := xb_m 1947 (by decide +kernel) (by decide)
theorem k_466 : Cond.selects "TypeFinderModel" y_TypeFinderModel_atom y_TypeFinderModel_atom ∈ xb_g := xb_ms (q := (y_TypeFinderModel_atom, 80)) (by decide +kernel) (by decide)
set_option maxRecDepth 100000 in
theorem k_467 : Cond.code y_TypeFinderModel_chain b_TypeFinderModel_chain 3 none ∈ xb_g := xb_m 1944 (by rfl) (by decide)
theorem k_468 : Cond.methodLink "TypeFinderModel" 295 y_TypeFinderModel_chain ∈ xb_g := xb_m 1941 (by decide +kernel) (by decide)
theorem k_469 : Cond.instanceMethod y_TypeFinderModel_chain ∈ xb_g := xb_m 1943 (by decide +kernel) (by decide)
theorem k_470 : Cond.selects "TypeFinderModel" y_TypeFinderModel_chain y_TypeFinderModel_chain ∈ xb_g := xb_ms (q := (y_TypeFinderModel_chain, 80)) (by decide +kernel) (by decide)
set_option maxRecDepth 100000 in
theorem k_471 : Cond.code y_TypeFinderModel_expression b_TypeFinderModel_expression 1 none ∈ xb_g := xb_m 1908 (by rfl) (by decide)
theorem k_472 : Cond.methodLink "TypeFinderModel" 504 y_TypeFinderModel_expression ∈ xb_g := xb_m 1905 (by decide +kernel) (by decide)
theorem k_473 : Cond.instanceMethod y_TypeFinderModel_expression ∈ xb_g := xb_m 1907 (by decide +kernel) (by decide)
theorem k_474 : Cond.selects "TypeFinderModel" y_TypeFinderModel_expression y_TypeFinderModel_expression ∈ xb_g := xb_ms (q := (y_TypeFinderModel_expression, 80)) (by decide +kernel) (by decide)
theorem k_475 : Cond.laysFinal "TypeFinder" "TypeFinder" "draft" "[C" ∈ xb_g := xb_m 773 (by decide +kernel) (by decide)
theorem k_476 : Cond.laysFinal "TypeFinder" "TypeFinder" "parser" "LTypeFinder$Parser;" ∈ xb_g := xb_m 775 (by decide +kernel) (by decide)
theorem k_477 : Cond.laysFinal "TypeFinder" "TypeFinder" "known" "LTypeFinder$Known;" ∈ xb_g := xb_m 777 (by decide +kernel) (by decide)
theorem k_478 : Cond.laysFinal "TypeFinder" "TypeFinder" "checker" "LTypeFinder$Checker;" ∈ xb_g := xb_m 779 (by decide +kernel) (by decide)
theorem k_479 : Cond.laysFinal "TypeFinder" "TypeFinder" "writer" "LTypeFinder$Writer;" ∈ xb_g := xb_m 781 (by decide +kernel) (by decide)
end
section
theorem k_480 : Cond.lays "TypeFinder" "TypeFinder" "length" "I" ∈ xb_g := xb_m 783 (by decide +kernel) (by decide)
theorem k_481 : Cond.lays "TypeFinder" "TypeFinder" "refusals" "I" ∈ xb_g := xb_m 785 (by decide +kernel) (by decide)
theorem k_482 : Cond.lays "TypeFinder" "TypeFinder" "openCases" "I" ∈ xb_g := xb_m 787 (by decide +kernel) (by decide)
theorem k_483 : Cond.lays "TypeFinder" "TypeFinder" "idleAlternatives" "I" ∈ xb_g := xb_m 789 (by decide +kernel) (by decide)
theorem k_484 : Cond.laysFinal "TypeFinder$Parser" "TypeFinder$Parser" "tokens" "LTypeFinder$Tokens;" ∈ xb_g := xb_m 453 (by decide +kernel) (by decide)
theorem k_485 : Cond.laysFinal "TypeFinder$Parser" "TypeFinder$Parser" "dataParser" "LTypeFinder$DataParser;" ∈ xb_g := xb_m 455 (by decide +kernel) (by decide)
theorem k_486 : Cond.laysFinal "TypeFinder$Parser" "TypeFinder$Parser" "levels" "[I" ∈ xb_g := xb_m 457 (by decide +kernel) (by decide)
theorem k_487 : Cond.laysFinal "TypeFinder$Parser" "TypeFinder$Parser" "rights" "[Z" ∈ xb_g := xb_m 459 (by decide +kernel) (by decide)
theorem k_488 : Cond.laysFinal "TypeFinder$Tokens" "TypeFinder$Tokens" "kinds" "[I" ∈ xb_g := xb_m 428 (by decide +kernel) (by decide)
theorem k_489 : Cond.laysFinal "TypeFinder$Tokens" "TypeFinder$Tokens" "values" "[J" ∈ xb_g := xb_m 430 (by decide +kernel) (by decide)
theorem k_490 : Cond.laysFinal "TypeFinder$Tokens" "TypeFinder$Tokens" "keywords" "[J" ∈ xb_g := xb_m 432 (by decide +kernel) (by decide)
theorem k_491 : Cond.lays "TypeFinder$Tokens" "TypeFinder$Tokens" "size" "I" ∈ xb_g := xb_m 434 (by decide +kernel) (by decide)
theorem k_492 : Cond.lays "TypeFinder$Tokens" "TypeFinder$Tokens" "at" "I" ∈ xb_g := xb_m 436 (by decide +kernel) (by decide)
theorem k_493 : Cond.laysFinal "TypeFinder$DataParser" "TypeFinder$DataParser" "tokens" "LTypeFinder$Tokens;" ∈ xb_g := xb_m 446 (by decide +kernel) (by decide)
theorem k_494 : Cond.laysFinal "TypeFinder$Known" "TypeFinder$Known" "integer" "LTypeFinder$Type;" ∈ xb_g := xb_m 686 (by decide +kernel) (by decide)
theorem k_495 : Cond.laysFinal "TypeFinder$Known" "TypeFinder$Known" "truth" "LTypeFinder$Type;" ∈ xb_g := xb_m 688 (by decide +kernel) (by decide)
theorem k_496 : Cond.laysFinal "TypeFinder$Known" "TypeFinder$Known" "dataTypes" "Ljava/util/ArrayList;" ∈ xb_g := xb_m 690 (by decide +kernel) (by decide)
theorem k_497 : Cond.laysFinal "TypeFinder$Known" "TypeFinder$Known" "names" "Ljava/util/ArrayList;" ∈ xb_g := xb_m 692 (by decide +kernel) (by decide)
theorem k_498 : Cond.laysFinal "TypeFinder$Known" "TypeFinder$Known" "firstNames" "I" ∈ xb_g := xb_m 694 (by decide +kernel) (by decide)
theorem k_499 : Cond.lays "TypeFinder$Type" "TypeFinder$Type" "kind" "I" ∈ xb_g := xb_m 500 (by decide +kernel) (by decide)
theorem k_500 : Cond.lays "TypeFinder$Type" "TypeFinder$Type" "comparable" "Z" ∈ xb_g := xb_m 502 (by decide +kernel) (by decide)
theorem k_501 : Cond.laysFinal "TypeFinder$Type" "TypeFinder$Type" "data" "LTypeFinder$DataType;" ∈ xb_g := xb_m 504 (by decide +kernel) (by decide)
theorem k_502 : Cond.laysFinal "TypeFinder$Type" "TypeFinder$Type" "left" "LTypeFinder$Type;" ∈ xb_g := xb_m 506 (by decide +kernel) (by decide)
theorem k_503 : Cond.laysFinal "TypeFinder$Type" "TypeFinder$Type" "right" "LTypeFinder$Type;" ∈ xb_g := xb_m 508 (by decide +kernel) (by decide)
theorem k_504 : Cond.lays "TypeFinder$Type" "TypeFinder$Type" "link" "LTypeFinder$Type;" ∈ xb_g := xb_m 510 (by decide +kernel) (by decide)
theorem k_505 : Cond.lays "TypeFinder$Type" "TypeFinder$Type" "twin" "LTypeFinder$Type;" ∈ xb_g := xb_m 512 (by decide +kernel) (by decide)
theorem k_506 : Cond.lays "TypeFinder$Type" "TypeFinder$Type" "mark" "I" ∈ xb_g := xb_m 514 (by decide +kernel) (by decide)
theorem k_507 : Cond.laysFinal "TypeFinder$DataType" "TypeFinder$DataType" "word" "J" ∈ xb_g := xb_m 569 (by decide +kernel) (by decide)
theorem k_508 : Cond.laysFinal "TypeFinder$DataType" "TypeFinder$DataType" "parameters" "I" ∈ xb_g := xb_m 571 (by decide +kernel) (by decide)
theorem k_509 : Cond.laysFinal "TypeFinder$DataType" "TypeFinder$DataType" "constructors" "Ljava/util/ArrayList;" ∈ xb_g := xb_m 573 (by decide +kernel) (by decide)
theorem k_510 : Cond.lays "TypeFinder$DataType" "TypeFinder$DataType" "whole" "LTypeFinder$Type;" ∈ xb_g := xb_m 575 (by decide +kernel) (by decide)
theorem k_511 : Cond.lays "TypeFinder$DataType" "TypeFinder$DataType" "allows" "Z" ∈ xb_g := xb_m 577 (by decide +kernel) (by decide)
theorem k_512 : Cond.laysFinal "TypeFinder$Name" "TypeFinder$Name" "word" "J" ∈ xb_g := xb_m 598 (by decide +kernel) (by decide)
theorem k_513 : Cond.laysFinal "TypeFinder$Name" "TypeFinder$Name" "type" "LTypeFinder$Type;" ∈ xb_g := xb_m 600 (by decide +kernel) (by decide)
theorem k_514 : Cond.laysFinal "TypeFinder$Name" "TypeFinder$Name" "general" "Z" ∈ xb_g := xb_m 602 (by decide +kernel) (by decide)
theorem k_515 : Cond.laysFinal "TypeFinder$Checker" "TypeFinder$Checker" "known" "LTypeFinder$Known;" ∈ xb_g := xb_m 734 (by decide +kernel) (by decide)
theorem k_516 : Cond.laysFinal "TypeFinder$Checker" "TypeFinder$Checker" "unifier" "LTypeFinder$Unifier;" ∈ xb_g := xb_m 736 (by decide +kernel) (by decide)
theorem k_517 : Cond.laysFinal "TypeFinder$Checker" "TypeFinder$Checker" "scope" "Ljava/util/ArrayList;" ∈ xb_g := xb_m 738 (by decide +kernel) (by decide)
theorem k_518 : Cond.laysFinal "TypeFinder$Checker" "TypeFinder$Checker" "operands" "Ljava/util/ArrayList;" ∈ xb_g := xb_m 740 (by decide +kernel) (by decide)
theorem k_519 : Cond.lays "TypeFinder$Checker" "TypeFinder$Checker" "openCases" "I" ∈ xb_g := xb_m 742 (by decide +kernel) (by decide)
theorem k_520 : Cond.lays "TypeFinder$Checker" "TypeFinder$Checker" "idleAlternatives" "I" ∈ xb_g := xb_m 744 (by decide +kernel) (by decide)
theorem k_521 : Cond.laysFinal "TypeFinder$Unifier" "TypeFinder$Unifier" "todo" "Ljava/util/ArrayList;" ∈ xb_g := xb_m 715 (by decide +kernel) (by decide)
theorem k_522 : Cond.laysFinal "TypeFinder$Unifier" "TypeFinder$Unifier" "open" "Ljava/util/ArrayList;" ∈ xb_g := xb_m 717 (by decide +kernel) (by decide)
theorem k_523 : Cond.laysFinal "TypeFinder$Unifier" "TypeFinder$Unifier" "walk" "Ljava/util/ArrayList;" ∈ xb_g := xb_m 719 (by decide +kernel) (by decide)
theorem k_524 : Cond.lays "TypeFinder$Unifier" "TypeFinder$Unifier" "walks" "I" ∈ xb_g := xb_m 721 (by decide +kernel) (by decide)
theorem k_525 : Cond.laysFinal "TypeFinder$Writer" "TypeFinder$Writer" "text" "Ljava/lang/StringBuilder;" ∈ xb_g := xb_m 759 (by decide +kernel) (by decide)
theorem k_526 : Cond.laysFinal "TypeFinder$Writer" "TypeFinder$Writer" "variables" "Ljava/util/ArrayList;" ∈ xb_g := xb_m 761 (by decide +kernel) (by decide)
theorem k_527 : Cond.lays "java/util/ArrayList" "java/util/AbstractList" "modCount" "I" ∈ xb_g := xb_m 540 (by decide +kernel) (by decide)
theorem k_528 : Cond.lays "java/util/ArrayList" "java/util/ArrayList" "elementData" "[Ljava/lang/Object;" ∈ xb_g := xb_m 536 (by decide +kernel) (by decide)
theorem k_529 : Cond.lays "java/util/ArrayList" "java/util/ArrayList" "size" "I" ∈ xb_g := xb_m 538 (by decide +kernel) (by decide)
theorem k_530 : Cond.lays "java/lang/StringBuilder" "java/lang/AbstractStringBuilder" "value" "[B" ∈ xb_g := xb_m 200 (by decide +kernel) (by decide)
theorem k_531 : Cond.lays "java/lang/StringBuilder" "java/lang/AbstractStringBuilder" "coder" "B" ∈ xb_g := xb_m 202 (by decide +kernel) (by decide)
theorem k_532 : Cond.lays "java/lang/StringBuilder" "java/lang/AbstractStringBuilder" "maybeLatin1" "Z" ∈ xb_g := xb_m 204 (by decide +kernel) (by decide)
theorem k_533 : Cond.lays "java/lang/StringBuilder" "java/lang/AbstractStringBuilder" "count" "I" ∈ xb_g := xb_m 206 (by decide +kernel) (by decide)
theorem k_534 : Cond.laysFinal "java/lang/String" "java/lang/String" "value" "[B" ∈ xb_g := xb_m 374 (by decide +kernel) (by decide)
theorem k_535 : Cond.laysFinal "java/lang/String" "java/lang/String" "coder" "B" ∈ xb_g := xb_m 376 (by decide +kernel) (by decide)
theorem k_536 : Cond.lays "java/lang/String" "java/lang/String" "hash" "I" ∈ xb_g := xb_m 378 (by decide +kernel) (by decide)
theorem k_537 : Cond.lays "java/lang/String" "java/lang/String" "hashIsZero" "Z" ∈ xb_g := xb_m 380 (by decide +kernel) (by decide)
theorem k_538 : Cond.lays "TypeFinderModel" "TypeFinderModel" "code" "I" ∈ xb_g := xb_m 1678 (by decide +kernel) (by decide)
theorem k_539 : Cond.lays "TypeFinderModel" "TypeFinderModel" "failures" "I" ∈ xb_g := xb_m 1680 (by decide +kernel) (by decide)
theorem k_540 : Cond.lays "TypeFinderModel" "TypeFinderModel" "drafted" "I" ∈ xb_g := xb_m 1682 (by decide +kernel) (by decide)
theorem k_541 : Cond.laysFinal "TypeFinderModel" "TypeFinderModel" "draft" "[I" ∈ xb_g := xb_m 1684 (by decide +kernel) (by decide)
theorem k_542 : Cond.lays "TypeFinderModel" "TypeFinderModel" "signs" "I" ∈ xb_g := xb_m 1686 (by decide +kernel) (by decide)
theorem k_543 : Cond.laysFinal "TypeFinderModel" "TypeFinderModel" "sign" "[I" ∈ xb_g := xb_m 1688 (by decide +kernel) (by decide)
theorem k_544 : Cond.laysFinal "TypeFinderModel" "TypeFinderModel" "worth" "[I" ∈ xb_g := xb_m 1690 (by decide +kernel) (by decide)
theorem k_545 : Cond.laysFinal "TypeFinderModel" "TypeFinderModel" "level" "[I" ∈ xb_g := xb_m 1692 (by decide +kernel) (by decide)
theorem k_546 : Cond.laysFinal "TypeFinderModel" "TypeFinderModel" "rightly" "[Z" ∈ xb_g := xb_m 1694 (by decide +kernel) (by decide)
theorem k_547 : Cond.lays "TypeFinderModel" "TypeFinderModel" "names" "I" ∈ xb_g := xb_m 1696 (by decide +kernel) (by decide)
theorem k_548 : Cond.laysFinal "TypeFinderModel" "TypeFinderModel" "nameOf" "[I" ∈ xb_g := xb_m 1698 (by decide +kernel) (by decide)
theorem k_549 : Cond.laysFinal "TypeFinderModel" "TypeFinderModel" "rowSize" "[I" ∈ xb_g := xb_m 1700 (by decide +kernel) (by decide)
theorem k_550 : Cond.laysFinal "TypeFinderModel" "TypeFinderModel" "rows" "[I" ∈ xb_g := xb_m 1702 (by decide +kernel) (by decide)
theorem k_551 : Cond.lays "TypeFinderModel" "TypeFinderModel" "datas" "I" ∈ xb_g := xb_m 1704 (by decide +kernel) (by decide)
theorem k_552 : Cond.laysFinal "TypeFinderModel" "TypeFinderModel" "dataWord" "[I" ∈ xb_g := xb_m 1706 (by decide +kernel) (by decide)
theorem k_553 : Cond.laysFinal "TypeFinderModel" "TypeFinderModel" "parameters" "[I" ∈ xb_g := xb_m 1708 (by decide +kernel) (by decide)
theorem k_554 : Cond.laysFinal "TypeFinderModel" "TypeFinderModel" "alternatives" "[I" ∈ xb_g := xb_m 1710 (by decide +kernel) (by decide)
theorem k_555 : Cond.laysFinal "TypeFinderModel" "TypeFinderModel" "allows" "[Z" ∈ xb_g := xb_m 1712 (by decide +kernel) (by decide)
theorem k_556 : Cond.lays "TypeFinderModel" "TypeFinderModel" "constructors" "I" ∈ xb_g := xb_m 1714 (by decide +kernel) (by decide)
theorem k_557 : Cond.laysFinal "TypeFinderModel" "TypeFinderModel" "constructorWord" "[I" ∈ xb_g := xb_m 1716 (by decide +kernel) (by decide)
theorem k_558 : Cond.laysFinal "TypeFinderModel" "TypeFinderModel" "constructorData" "[I" ∈ xb_g := xb_m 1718 (by decide +kernel) (by decide)
theorem k_559 : Cond.laysFinal "TypeFinderModel" "TypeFinderModel" "constructorParts" "[I" ∈ xb_g := xb_m 1720 (by decide +kernel) (by decide)
theorem k_560 : Cond.laysFinal "TypeFinderModel" "TypeFinderModel" "constructorSize" "[I" ∈ xb_g := xb_m 1722 (by decide +kernel) (by decide)
theorem k_561 : Cond.laysFinal "TypeFinderModel" "TypeFinderModel" "constructorRow" "[I" ∈ xb_g := xb_m 1724 (by decide +kernel) (by decide)
theorem k_562 : Cond.lays "TypeFinderModel" "TypeFinderModel" "at" "I" ∈ xb_g := xb_m 1726 (by decide +kernel) (by decide)
theorem k_563 : Cond.lays "TypeFinderModel" "TypeFinderModel" "bad" "Z" ∈ xb_g := xb_m 1728 (by decide +kernel) (by decide)
theorem k_564 : Cond.lays "TypeFinderModel" "TypeFinderModel" "steps" "I" ∈ xb_g := xb_m 1730 (by decide +kernel) (by decide)
theorem k_565 : Cond.laysFinal "TypeFinderModel" "TypeFinderModel" "step" "[I" ∈ xb_g := xb_m 1732 (by decide +kernel) (by decide)
theorem k_566 : Cond.laysFinal "TypeFinderModel" "TypeFinderModel" "one" "[I" ∈ xb_g := xb_m 1734 (by decide +kernel) (by decide)
theorem k_567 : Cond.laysFinal "TypeFinderModel" "TypeFinderModel" "two" "[I" ∈ xb_g := xb_m 1736 (by decide +kernel) (by decide)
theorem k_568 : Cond.lays "TypeFinderModel" "TypeFinderModel" "opened" "I" ∈ xb_g := xb_m 1738 (by decide +kernel) (by decide)
theorem k_569 : Cond.laysFinal "TypeFinderModel" "TypeFinderModel" "open" "[I" ∈ xb_g := xb_m 1740 (by decide +kernel) (by decide)
theorem k_570 : Cond.laysFinal "TypeFinderModel" "TypeFinderModel" "deep" "[I" ∈ xb_g := xb_m 1742 (by decide +kernel) (by decide)
theorem k_571 : Cond.laysFinal "TypeFinderModel" "TypeFinderModel" "first" "[I" ∈ xb_g := xb_m 1744 (by decide +kernel) (by decide)
theorem k_572 : Cond.laysFinal "TypeFinderModel" "TypeFinderModel" "second" "[I" ∈ xb_g := xb_m 1746 (by decide +kernel) (by decide)
theorem k_573 : Cond.laysFinal "TypeFinderModel" "TypeFinderModel" "third" "[I" ∈ xb_g := xb_m 1748 (by decide +kernel) (by decide)
theorem k_574 : Cond.laysFinal "TypeFinderModel" "TypeFinderModel" "flags" "[I" ∈ xb_g := xb_m 1750 (by decide +kernel) (by decide)
theorem k_575 : Cond.lays "TypeFinderModel" "TypeFinderModel" "depth" "I" ∈ xb_g := xb_m 1752 (by decide +kernel) (by decide)
theorem k_576 : Cond.lays "TypeFinderModel" "TypeFinderModel" "flag" "I" ∈ xb_g := xb_m 1754 (by decide +kernel) (by decide)
theorem k_577 : Cond.lays "TypeFinderModel" "TypeFinderModel" "state" "I" ∈ xb_g := xb_m 1756 (by decide +kernel) (by decide)
theorem k_578 : Cond.lays "TypeFinderModel" "TypeFinderModel" "waiting" "I" ∈ xb_g := xb_m 1758 (by decide +kernel) (by decide)
theorem k_579 : Cond.laysFinal "TypeFinderModel" "TypeFinderModel" "waits" "[I" ∈ xb_g := xb_m 1760 (by decide +kernel) (by decide)
theorem k_580 : Cond.lays "TypeFinderModel" "TypeFinderModel" "types" "I" ∈ xb_g := xb_m 1762 (by decide +kernel) (by decide)
theorem k_581 : Cond.laysFinal "TypeFinderModel" "TypeFinderModel" "kind" "[I" ∈ xb_g := xb_m 1764 (by decide +kernel) (by decide)
theorem k_582 : Cond.laysFinal "TypeFinderModel" "TypeFinderModel" "left" "[I" ∈ xb_g := xb_m 1766 (by decide +kernel) (by decide)
theorem k_583 : Cond.laysFinal "TypeFinderModel" "TypeFinderModel" "right" "[I" ∈ xb_g := xb_m 1768 (by decide +kernel) (by decide)
theorem k_584 : Cond.laysFinal "TypeFinderModel" "TypeFinderModel" "seen" "[I" ∈ xb_g := xb_m 1770 (by decide +kernel) (by decide)
theorem k_585 : Cond.laysFinal "TypeFinderModel" "TypeFinderModel" "copied" "[I" ∈ xb_g := xb_m 1772 (by decide +kernel) (by decide)
theorem k_586 : Cond.lays "TypeFinderModel" "TypeFinderModel" "stamp" "I" ∈ xb_g := xb_m 1774 (by decide +kernel) (by decide)
theorem k_587 : Cond.lays "TypeFinderModel" "TypeFinderModel" "pile" "I" ∈ xb_g := xb_m 1776 (by decide +kernel) (by decide)
theorem k_588 : Cond.laysFinal "TypeFinderModel" "TypeFinderModel" "piled" "[I" ∈ xb_g := xb_m 1778 (by decide +kernel) (by decide)
theorem k_589 : Cond.laysFinal "TypeFinderModel" "TypeFinderModel" "also" "[I" ∈ xb_g := xb_m 1780 (by decide +kernel) (by decide)
theorem k_590 : Cond.lays "TypeFinderModel" "TypeFinderModel" "held" "I" ∈ xb_g := xb_m 1782 (by decide +kernel) (by decide)
theorem k_591 : Cond.laysFinal "TypeFinderModel" "TypeFinderModel" "hold" "[I" ∈ xb_g := xb_m 1784 (by decide +kernel) (by decide)
theorem k_592 : Cond.lays "TypeFinderModel" "TypeFinderModel" "bound" "I" ∈ xb_g := xb_m 1786 (by decide +kernel) (by decide)
theorem k_593 : Cond.laysFinal "TypeFinderModel" "TypeFinderModel" "boundWord" "[I" ∈ xb_g := xb_m 1788 (by decide +kernel) (by decide)
theorem k_594 : Cond.laysFinal "TypeFinderModel" "TypeFinderModel" "boundType" "[I" ∈ xb_g := xb_m 1790 (by decide +kernel) (by decide)
theorem k_595 : Cond.lays "TypeFinderModel" "TypeFinderModel" "cases" "I" ∈ xb_g := xb_m 1792 (by decide +kernel) (by decide)
theorem k_596 : Cond.laysFinal "TypeFinderModel" "TypeFinderModel" "found" "[I" ∈ xb_g := xb_m 1794 (by decide +kernel) (by decide)
theorem k_597 : Cond.laysFinal "TypeFinderModel" "TypeFinderModel" "firstPattern" "[I" ∈ xb_g := xb_m 1796 (by decide +kernel) (by decide)
theorem k_598 : Cond.lays "TypeFinderModel" "TypeFinderModel" "patterns" "I" ∈ xb_g := xb_m 1798 (by decide +kernel) (by decide)
theorem k_599 : Cond.laysFinal "TypeFinderModel" "TypeFinderModel" "patternKind" "[I" ∈ xb_g := xb_m 1800 (by decide +kernel) (by decide)
end
section
theorem k_600 : Cond.laysFinal "TypeFinderModel" "TypeFinderModel" "patternOf" "[I" ∈ xb_g := xb_m 1802 (by decide +kernel) (by decide)
theorem k_601 : Cond.lays "TypeFinderModel" "TypeFinderModel" "failed" "I" ∈ xb_g := xb_m 1804 (by decide +kernel) (by decide)
theorem k_602 : Cond.lays "TypeFinderModel" "TypeFinderModel" "idle" "I" ∈ xb_g := xb_m 1806 (by decide +kernel) (by decide)
theorem k_603 : Cond.lays "TypeFinderModel" "TypeFinderModel" "holes" "I" ∈ xb_g := xb_m 1808 (by decide +kernel) (by decide)
theorem k_604 : Cond.laysFinal "TypeFinderModel" "TypeFinderModel" "matched" "[I" ∈ xb_g := xb_m 1810 (by decide +kernel) (by decide)
theorem k_605 : Cond.lays "TypeFinderModel" "TypeFinderModel" "shown" "I" ∈ xb_g := xb_m 1812 (by decide +kernel) (by decide)
theorem k_606 : Cond.laysFinal "TypeFinderModel" "TypeFinderModel" "text" "[I" ∈ xb_g := xb_m 1814 (by decide +kernel) (by decide)
theorem k_607 : Cond.lays "TypeFinderModel" "TypeFinderModel" "defined" "I" ∈ xb_g := xb_m 1816 (by decide +kernel) (by decide)
theorem k_608 : Cond.lays "TypeFinderModel" "TypeFinderModel" "self" "I" ∈ xb_g := xb_m 1818 (by decide +kernel) (by decide)
theorem k_609 : Cond.lays "TypeFinderModel" "TypeFinderModel" "selfParameters" "I" ∈ xb_g := xb_m 1820 (by decide +kernel) (by decide)
theorem k_610 : Cond.lays "TypeFinderModel" "TypeFinderModel" "pieces" "I" ∈ xb_g := xb_m 1822 (by decide +kernel) (by decide)
theorem k_611 : Cond.laysFinal "TypeFinderModel" "TypeFinderModel" "piece" "[I" ∈ xb_g := xb_m 1824 (by decide +kernel) (by decide)
theorem k_612 : Cond.laysFinal "TypeFinderModel" "TypeFinderModel" "pieceWord" "[I" ∈ xb_g := xb_m 1826 (by decide +kernel) (by decide)
theorem k_613 : Cond.laysFinal "TypeFinderModel" "TypeFinderModel" "pieceParts" "[I" ∈ xb_g := xb_m 1828 (by decide +kernel) (by decide)
theorem k_614 : Cond.laysFinal "TypeFinderModel" "TypeFinderModel" "parameterWord" "[I" ∈ xb_g := xb_m 1830 (by decide +kernel) (by decide)
theorem k_615 : Cond.lays "TypeFinderModel" "TypeFinderModel" "choices" "I" ∈ xb_g := xb_m 1832 (by decide +kernel) (by decide)
theorem k_616 : Cond.laysFinal "TypeFinderModel" "TypeFinderModel" "choiceWord" "[I" ∈ xb_g := xb_m 1834 (by decide +kernel) (by decide)
theorem k_617 : Cond.laysFinal "TypeFinderModel" "TypeFinderModel" "choiceParts" "[I" ∈ xb_g := xb_m 1836 (by decide +kernel) (by decide)
end
section
set_option maxRecDepth 100000 in
theorem uw_0 : u_ws R_0 F_0 9 = [Cond.laysFinal "TypeFinder" "TypeFinder" "draft" "[C", Cond.laysFinal "TypeFinder" "TypeFinder" "parser" "LTypeFinder$Parser;", Cond.laysFinal "TypeFinder" "TypeFinder" "known" "LTypeFinder$Known;", Cond.laysFinal "TypeFinder" "TypeFinder" "checker" "LTypeFinder$Checker;", Cond.laysFinal "TypeFinder" "TypeFinder" "writer" "LTypeFinder$Writer;", Cond.lays "TypeFinder" "TypeFinder" "length" "I", Cond.lays "TypeFinder" "TypeFinder" "refusals" "I", Cond.lays "TypeFinder" "TypeFinder" "openCases" "I", Cond.lays "TypeFinder" "TypeFinder" "idleAlternatives" "I"] := by rfl
set_option maxRecDepth 100000 in
theorem cf_0 : xb_cf 0 R_0 F_0 9 t_0 := ⟨rfl, fun w hw => by rw [uw_0] at hw; exact (List.forall_mem_cons.mpr ⟨k_475, List.forall_mem_cons.mpr ⟨k_476, List.forall_mem_cons.mpr ⟨k_477, List.forall_mem_cons.mpr ⟨k_478, List.forall_mem_cons.mpr ⟨k_479, List.forall_mem_cons.mpr ⟨k_480, List.forall_mem_cons.mpr ⟨k_481, List.forall_mem_cons.mpr ⟨k_482, List.forall_mem_cons.mpr ⟨k_483, fun _ h => absurd h List.not_mem_nil⟩⟩⟩⟩⟩⟩⟩⟩⟩) w hw, by decide +kernel, by decide +kernel⟩
theorem df_0 : ∀ j, j < 9 → defaultValue (t_0 j) = vp_V [.null, .null, .null, .null, .null, .int 0, .int 0, .int 0, .int 0] j := by decide +kernel
set_option maxRecDepth 100000 in
theorem uw_1 : u_ws R_1 F_1 4 = [Cond.laysFinal "TypeFinder$Parser" "TypeFinder$Parser" "tokens" "LTypeFinder$Tokens;", Cond.laysFinal "TypeFinder$Parser" "TypeFinder$Parser" "dataParser" "LTypeFinder$DataParser;", Cond.laysFinal "TypeFinder$Parser" "TypeFinder$Parser" "levels" "[I", Cond.laysFinal "TypeFinder$Parser" "TypeFinder$Parser" "rights" "[Z"] := by rfl
set_option maxRecDepth 100000 in
theorem cf_1 : xb_cf 1 R_1 F_1 4 t_1 := ⟨rfl, fun w hw => by rw [uw_1] at hw; exact (List.forall_mem_cons.mpr ⟨k_484, List.forall_mem_cons.mpr ⟨k_485, List.forall_mem_cons.mpr ⟨k_486, List.forall_mem_cons.mpr ⟨k_487, fun _ h => absurd h List.not_mem_nil⟩⟩⟩⟩) w hw, by decide +kernel, by decide +kernel⟩
theorem df_1 : ∀ j, j < 4 → defaultValue (t_1 j) = vp_V [.null, .null, .null, .null] j := by decide +kernel
set_option maxRecDepth 100000 in
theorem uw_2 : u_ws R_2 F_2 5 = [Cond.laysFinal "TypeFinder$Tokens" "TypeFinder$Tokens" "kinds" "[I", Cond.laysFinal "TypeFinder$Tokens" "TypeFinder$Tokens" "values" "[J", Cond.laysFinal "TypeFinder$Tokens" "TypeFinder$Tokens" "keywords" "[J", Cond.lays "TypeFinder$Tokens" "TypeFinder$Tokens" "size" "I", Cond.lays "TypeFinder$Tokens" "TypeFinder$Tokens" "at" "I"] := by rfl
set_option maxRecDepth 100000 in
theorem cf_2 : xb_cf 2 R_2 F_2 5 t_2 := ⟨rfl, fun w hw => by rw [uw_2] at hw; exact (List.forall_mem_cons.mpr ⟨k_488, List.forall_mem_cons.mpr ⟨k_489, List.forall_mem_cons.mpr ⟨k_490, List.forall_mem_cons.mpr ⟨k_491, List.forall_mem_cons.mpr ⟨k_492, fun _ h => absurd h List.not_mem_nil⟩⟩⟩⟩⟩) w hw, by decide +kernel, by decide +kernel⟩
theorem df_2 : ∀ j, j < 5 → defaultValue (t_2 j) = vp_V [.null, .null, .null, .int 0, .int 0] j := by decide +kernel
set_option maxRecDepth 100000 in
theorem uw_3 : u_ws R_3 F_3 1 = [Cond.laysFinal "TypeFinder$DataParser" "TypeFinder$DataParser" "tokens" "LTypeFinder$Tokens;"] := by rfl
set_option maxRecDepth 100000 in
theorem cf_3 : xb_cf 3 R_3 F_3 1 t_3 := ⟨rfl, fun w hw => by rw [uw_3] at hw; exact (List.forall_mem_cons.mpr ⟨k_493, fun _ h => absurd h List.not_mem_nil⟩) w hw, by decide +kernel, by decide +kernel⟩
theorem df_3 : ∀ j, j < 1 → defaultValue (t_3 j) = vp_V [.null] j := by decide +kernel
set_option maxRecDepth 100000 in
theorem uw_4 : u_ws R_4 F_4 5 = [Cond.laysFinal "TypeFinder$Known" "TypeFinder$Known" "integer" "LTypeFinder$Type;", Cond.laysFinal "TypeFinder$Known" "TypeFinder$Known" "truth" "LTypeFinder$Type;", Cond.laysFinal "TypeFinder$Known" "TypeFinder$Known" "dataTypes" "Ljava/util/ArrayList;", Cond.laysFinal "TypeFinder$Known" "TypeFinder$Known" "names" "Ljava/util/ArrayList;", Cond.laysFinal "TypeFinder$Known" "TypeFinder$Known" "firstNames" "I"] := by rfl
set_option maxRecDepth 100000 in
theorem cf_4 : xb_cf 4 R_4 F_4 5 t_4 := ⟨rfl, fun w hw => by rw [uw_4] at hw; exact (List.forall_mem_cons.mpr ⟨k_494, List.forall_mem_cons.mpr ⟨k_495, List.forall_mem_cons.mpr ⟨k_496, List.forall_mem_cons.mpr ⟨k_497, List.forall_mem_cons.mpr ⟨k_498, fun _ h => absurd h List.not_mem_nil⟩⟩⟩⟩⟩) w hw, by decide +kernel, by decide +kernel⟩
theorem df_4 : ∀ j, j < 5 → defaultValue (t_4 j) = vp_V [.null, .null, .null, .null, .int 0] j := by decide +kernel
set_option maxRecDepth 100000 in
theorem uw_5 : u_ws R_5 F_5 8 = [Cond.lays "TypeFinder$Type" "TypeFinder$Type" "kind" "I", Cond.lays "TypeFinder$Type" "TypeFinder$Type" "comparable" "Z", Cond.laysFinal "TypeFinder$Type" "TypeFinder$Type" "data" "LTypeFinder$DataType;", Cond.laysFinal "TypeFinder$Type" "TypeFinder$Type" "left" "LTypeFinder$Type;", Cond.laysFinal "TypeFinder$Type" "TypeFinder$Type" "right" "LTypeFinder$Type;", Cond.lays "TypeFinder$Type" "TypeFinder$Type" "link" "LTypeFinder$Type;", Cond.lays "TypeFinder$Type" "TypeFinder$Type" "twin" "LTypeFinder$Type;", Cond.lays "TypeFinder$Type" "TypeFinder$Type" "mark" "I"] := by rfl
set_option maxRecDepth 100000 in
theorem cf_5 : xb_cf 5 R_5 F_5 8 t_5 := ⟨rfl, fun w hw => by rw [uw_5] at hw; exact (List.forall_mem_cons.mpr ⟨k_499, List.forall_mem_cons.mpr ⟨k_500, List.forall_mem_cons.mpr ⟨k_501, List.forall_mem_cons.mpr ⟨k_502, List.forall_mem_cons.mpr ⟨k_503, List.forall_mem_cons.mpr ⟨k_504, List.forall_mem_cons.mpr ⟨k_505, List.forall_mem_cons.mpr ⟨k_506, fun _ h => absurd h List.not_mem_nil⟩⟩⟩⟩⟩⟩⟩⟩) w hw, by decide +kernel, by decide +kernel⟩
theorem df_5 : ∀ j, j < 8 → defaultValue (t_5 j) = vp_V [.int 0, .int 0, .null, .null, .null, .null, .null, .int 0] j := by decide +kernel
set_option maxRecDepth 100000 in
theorem uw_6 : u_ws R_6 F_6 5 = [Cond.laysFinal "TypeFinder$DataType" "TypeFinder$DataType" "word" "J", Cond.laysFinal "TypeFinder$DataType" "TypeFinder$DataType" "parameters" "I", Cond.laysFinal "TypeFinder$DataType" "TypeFinder$DataType" "constructors" "Ljava/util/ArrayList;", Cond.lays "TypeFinder$DataType" "TypeFinder$DataType" "whole" "LTypeFinder$Type;", Cond.lays "TypeFinder$DataType" "TypeFinder$DataType" "allows" "Z"] := by rfl
set_option maxRecDepth 100000 in
theorem cf_6 : xb_cf 6 R_6 F_6 5 t_6 := ⟨rfl, fun w hw => by rw [uw_6] at hw; exact (List.forall_mem_cons.mpr ⟨k_507, List.forall_mem_cons.mpr ⟨k_508, List.forall_mem_cons.mpr ⟨k_509, List.forall_mem_cons.mpr ⟨k_510, List.forall_mem_cons.mpr ⟨k_511, fun _ h => absurd h List.not_mem_nil⟩⟩⟩⟩⟩) w hw, by decide +kernel, by decide +kernel⟩
theorem df_6 : ∀ j, j < 5 → defaultValue (t_6 j) = vp_V [.long 0, .int 0, .null, .null, .int 0] j := by decide +kernel
set_option maxRecDepth 100000 in
theorem uw_7 : u_ws R_7 F_7 3 = [Cond.laysFinal "TypeFinder$Name" "TypeFinder$Name" "word" "J", Cond.laysFinal "TypeFinder$Name" "TypeFinder$Name" "type" "LTypeFinder$Type;", Cond.laysFinal "TypeFinder$Name" "TypeFinder$Name" "general" "Z"] := by rfl
set_option maxRecDepth 100000 in
theorem cf_7 : xb_cf 7 R_7 F_7 3 t_7 := ⟨rfl, fun w hw => by rw [uw_7] at hw; exact (List.forall_mem_cons.mpr ⟨k_512, List.forall_mem_cons.mpr ⟨k_513, List.forall_mem_cons.mpr ⟨k_514, fun _ h => absurd h List.not_mem_nil⟩⟩⟩) w hw, by decide +kernel, by decide +kernel⟩
theorem df_7 : ∀ j, j < 3 → defaultValue (t_7 j) = vp_V [.long 0, .null, .int 0] j := by decide +kernel
set_option maxRecDepth 100000 in
theorem uw_8 : u_ws R_8 F_8 6 = [Cond.laysFinal "TypeFinder$Checker" "TypeFinder$Checker" "known" "LTypeFinder$Known;", Cond.laysFinal "TypeFinder$Checker" "TypeFinder$Checker" "unifier" "LTypeFinder$Unifier;", Cond.laysFinal "TypeFinder$Checker" "TypeFinder$Checker" "scope" "Ljava/util/ArrayList;", Cond.laysFinal "TypeFinder$Checker" "TypeFinder$Checker" "operands" "Ljava/util/ArrayList;", Cond.lays "TypeFinder$Checker" "TypeFinder$Checker" "openCases" "I", Cond.lays "TypeFinder$Checker" "TypeFinder$Checker" "idleAlternatives" "I"] := by rfl
set_option maxRecDepth 100000 in
theorem cf_8 : xb_cf 8 R_8 F_8 6 t_8 := ⟨rfl, fun w hw => by rw [uw_8] at hw; exact (List.forall_mem_cons.mpr ⟨k_515, List.forall_mem_cons.mpr ⟨k_516, List.forall_mem_cons.mpr ⟨k_517, List.forall_mem_cons.mpr ⟨k_518, List.forall_mem_cons.mpr ⟨k_519, List.forall_mem_cons.mpr ⟨k_520, fun _ h => absurd h List.not_mem_nil⟩⟩⟩⟩⟩⟩) w hw, by decide +kernel, by decide +kernel⟩
theorem df_8 : ∀ j, j < 6 → defaultValue (t_8 j) = vp_V [.null, .null, .null, .null, .int 0, .int 0] j := by decide +kernel
set_option maxRecDepth 100000 in
theorem uw_9 : u_ws R_9 F_9 4 = [Cond.laysFinal "TypeFinder$Unifier" "TypeFinder$Unifier" "todo" "Ljava/util/ArrayList;", Cond.laysFinal "TypeFinder$Unifier" "TypeFinder$Unifier" "open" "Ljava/util/ArrayList;", Cond.laysFinal "TypeFinder$Unifier" "TypeFinder$Unifier" "walk" "Ljava/util/ArrayList;", Cond.lays "TypeFinder$Unifier" "TypeFinder$Unifier" "walks" "I"] := by rfl
set_option maxRecDepth 100000 in
theorem cf_9 : xb_cf 9 R_9 F_9 4 t_9 := ⟨rfl, fun w hw => by rw [uw_9] at hw; exact (List.forall_mem_cons.mpr ⟨k_521, List.forall_mem_cons.mpr ⟨k_522, List.forall_mem_cons.mpr ⟨k_523, List.forall_mem_cons.mpr ⟨k_524, fun _ h => absurd h List.not_mem_nil⟩⟩⟩⟩) w hw, by decide +kernel, by decide +kernel⟩
theorem df_9 : ∀ j, j < 4 → defaultValue (t_9 j) = vp_V [.null, .null, .null, .int 0] j := by decide +kernel
set_option maxRecDepth 100000 in
theorem uw_10 : u_ws R_10 F_10 2 = [Cond.laysFinal "TypeFinder$Writer" "TypeFinder$Writer" "text" "Ljava/lang/StringBuilder;", Cond.laysFinal "TypeFinder$Writer" "TypeFinder$Writer" "variables" "Ljava/util/ArrayList;"] := by rfl
set_option maxRecDepth 100000 in
theorem cf_10 : xb_cf 10 R_10 F_10 2 t_10 := ⟨rfl, fun w hw => by rw [uw_10] at hw; exact (List.forall_mem_cons.mpr ⟨k_525, List.forall_mem_cons.mpr ⟨k_526, fun _ h => absurd h List.not_mem_nil⟩⟩) w hw, by decide +kernel, by decide +kernel⟩
theorem df_10 : ∀ j, j < 2 → defaultValue (t_10 j) = vp_V [.null, .null] j := by decide +kernel
set_option maxRecDepth 100000 in
theorem uw_11 : u_ws R_11 F_11 3 = [Cond.lays "java/util/ArrayList" "java/util/AbstractList" "modCount" "I", Cond.lays "java/util/ArrayList" "java/util/ArrayList" "elementData" "[Ljava/lang/Object;", Cond.lays "java/util/ArrayList" "java/util/ArrayList" "size" "I"] := by rfl
set_option maxRecDepth 100000 in
theorem cf_11 : xb_cf 11 R_11 F_11 3 t_11 := ⟨rfl, fun w hw => by rw [uw_11] at hw; exact (List.forall_mem_cons.mpr ⟨k_527, List.forall_mem_cons.mpr ⟨k_528, List.forall_mem_cons.mpr ⟨k_529, fun _ h => absurd h List.not_mem_nil⟩⟩⟩) w hw, by decide +kernel, by decide +kernel⟩
theorem df_11 : ∀ j, j < 3 → defaultValue (t_11 j) = vp_V [.int 0, .null, .int 0] j := by decide +kernel
set_option maxRecDepth 100000 in
theorem uw_12 : u_ws R_12 F_12 4 = [Cond.lays "java/lang/StringBuilder" "java/lang/AbstractStringBuilder" "value" "[B", Cond.lays "java/lang/StringBuilder" "java/lang/AbstractStringBuilder" "coder" "B", Cond.lays "java/lang/StringBuilder" "java/lang/AbstractStringBuilder" "maybeLatin1" "Z", Cond.lays "java/lang/StringBuilder" "java/lang/AbstractStringBuilder" "count" "I"] := by rfl
set_option maxRecDepth 100000 in
theorem cf_12 : xb_cf 12 R_12 F_12 4 t_12 := ⟨rfl, fun w hw => by rw [uw_12] at hw; exact (List.forall_mem_cons.mpr ⟨k_530, List.forall_mem_cons.mpr ⟨k_531, List.forall_mem_cons.mpr ⟨k_532, List.forall_mem_cons.mpr ⟨k_533, fun _ h => absurd h List.not_mem_nil⟩⟩⟩⟩) w hw, by decide +kernel, by decide +kernel⟩
theorem df_12 : ∀ j, j < 4 → defaultValue (t_12 j) = vp_V [.null, .int 0, .int 0, .int 0] j := by decide +kernel
set_option maxRecDepth 100000 in
theorem uw_13 : u_ws R_13 F_13 4 = [Cond.laysFinal "java/lang/String" "java/lang/String" "value" "[B", Cond.laysFinal "java/lang/String" "java/lang/String" "coder" "B", Cond.lays "java/lang/String" "java/lang/String" "hash" "I", Cond.lays "java/lang/String" "java/lang/String" "hashIsZero" "Z"] := by rfl
set_option maxRecDepth 100000 in
theorem cf_13 : xb_cf 13 R_13 F_13 4 t_13 := ⟨rfl, fun w hw => by rw [uw_13] at hw; exact (List.forall_mem_cons.mpr ⟨k_534, List.forall_mem_cons.mpr ⟨k_535, List.forall_mem_cons.mpr ⟨k_536, List.forall_mem_cons.mpr ⟨k_537, fun _ h => absurd h List.not_mem_nil⟩⟩⟩⟩) w hw, by decide +kernel, by decide +kernel⟩
theorem df_13 : ∀ j, j < 4 → defaultValue (t_13 j) = vp_V [.null, .int 0, .int 0, .int 0] j := by decide +kernel
set_option maxRecDepth 100000 in
theorem uw_14 : u_ws R_14 F_14 80 = [Cond.lays "TypeFinderModel" "TypeFinderModel" "code" "I", Cond.lays "TypeFinderModel" "TypeFinderModel" "failures" "I", Cond.lays "TypeFinderModel" "TypeFinderModel" "drafted" "I", Cond.laysFinal "TypeFinderModel" "TypeFinderModel" "draft" "[I", Cond.lays "TypeFinderModel" "TypeFinderModel" "signs" "I", Cond.laysFinal "TypeFinderModel" "TypeFinderModel" "sign" "[I", Cond.laysFinal "TypeFinderModel" "TypeFinderModel" "worth" "[I", Cond.laysFinal "TypeFinderModel" "TypeFinderModel" "level" "[I", Cond.laysFinal "TypeFinderModel" "TypeFinderModel" "rightly" "[Z", Cond.lays "TypeFinderModel" "TypeFinderModel" "names" "I", Cond.laysFinal "TypeFinderModel" "TypeFinderModel" "nameOf" "[I", Cond.laysFinal "TypeFinderModel" "TypeFinderModel" "rowSize" "[I", Cond.laysFinal "TypeFinderModel" "TypeFinderModel" "rows" "[I", Cond.lays "TypeFinderModel" "TypeFinderModel" "datas" "I", Cond.laysFinal "TypeFinderModel" "TypeFinderModel" "dataWord" "[I", Cond.laysFinal "TypeFinderModel" "TypeFinderModel" "parameters" "[I", Cond.laysFinal "TypeFinderModel" "TypeFinderModel" "alternatives" "[I", Cond.laysFinal "TypeFinderModel" "TypeFinderModel" "allows" "[Z", Cond.lays "TypeFinderModel" "TypeFinderModel" "constructors" "I", Cond.laysFinal "TypeFinderModel" "TypeFinderModel" "constructorWord" "[I", Cond.laysFinal "TypeFinderModel" "TypeFinderModel" "constructorData" "[I", Cond.laysFinal "TypeFinderModel" "TypeFinderModel" "constructorParts" "[I", Cond.laysFinal "TypeFinderModel" "TypeFinderModel" "constructorSize" "[I", Cond.laysFinal "TypeFinderModel" "TypeFinderModel" "constructorRow" "[I", Cond.lays "TypeFinderModel" "TypeFinderModel" "at" "I", Cond.lays "TypeFinderModel" "TypeFinderModel" "bad" "Z", Cond.lays "TypeFinderModel" "TypeFinderModel" "steps" "I", Cond.laysFinal "TypeFinderModel" "TypeFinderModel" "step" "[I", Cond.laysFinal "TypeFinderModel" "TypeFinderModel" "one" "[I", Cond.laysFinal "TypeFinderModel" "TypeFinderModel" "two" "[I", Cond.lays "TypeFinderModel" "TypeFinderModel" "opened" "I", Cond.laysFinal "TypeFinderModel" "TypeFinderModel" "open" "[I", Cond.laysFinal "TypeFinderModel" "TypeFinderModel" "deep" "[I", Cond.laysFinal "TypeFinderModel" "TypeFinderModel" "first" "[I", Cond.laysFinal "TypeFinderModel" "TypeFinderModel" "second" "[I", Cond.laysFinal "TypeFinderModel" "TypeFinderModel" "third" "[I", Cond.laysFinal "TypeFinderModel" "TypeFinderModel" "flags" "[I", Cond.lays "TypeFinderModel" "TypeFinderModel" "depth" "I", Cond.lays "TypeFinderModel" "TypeFinderModel" "flag" "I", Cond.lays "TypeFinderModel" "TypeFinderModel" "state" "I", Cond.lays "TypeFinderModel" "TypeFinderModel" "waiting" "I", Cond.laysFinal "TypeFinderModel" "TypeFinderModel" "waits" "[I", Cond.lays "TypeFinderModel" "TypeFinderModel" "types" "I", Cond.laysFinal "TypeFinderModel" "TypeFinderModel" "kind" "[I", Cond.laysFinal "TypeFinderModel" "TypeFinderModel" "left" "[I", Cond.laysFinal "TypeFinderModel" "TypeFinderModel" "right" "[I", Cond.laysFinal "TypeFinderModel" "TypeFinderModel" "seen" "[I", Cond.laysFinal "TypeFinderModel" "TypeFinderModel" "copied" "[I", Cond.lays "TypeFinderModel" "TypeFinderModel" "stamp" "I", Cond.lays "TypeFinderModel" "TypeFinderModel" "pile" "I", Cond.laysFinal "TypeFinderModel" "TypeFinderModel" "piled" "[I", Cond.laysFinal "TypeFinderModel" "TypeFinderModel" "also" "[I", Cond.lays "TypeFinderModel" "TypeFinderModel" "held" "I", Cond.laysFinal "TypeFinderModel" "TypeFinderModel" "hold" "[I", Cond.lays "TypeFinderModel" "TypeFinderModel" "bound" "I", Cond.laysFinal "TypeFinderModel" "TypeFinderModel" "boundWord" "[I", Cond.laysFinal "TypeFinderModel" "TypeFinderModel" "boundType" "[I", Cond.lays "TypeFinderModel" "TypeFinderModel" "cases" "I", Cond.laysFinal "TypeFinderModel" "TypeFinderModel" "found" "[I", Cond.laysFinal "TypeFinderModel" "TypeFinderModel" "firstPattern" "[I", Cond.lays "TypeFinderModel" "TypeFinderModel" "patterns" "I", Cond.laysFinal "TypeFinderModel" "TypeFinderModel" "patternKind" "[I", Cond.laysFinal "TypeFinderModel" "TypeFinderModel" "patternOf" "[I", Cond.lays "TypeFinderModel" "TypeFinderModel" "failed" "I", Cond.lays "TypeFinderModel" "TypeFinderModel" "idle" "I", Cond.lays "TypeFinderModel" "TypeFinderModel" "holes" "I", Cond.laysFinal "TypeFinderModel" "TypeFinderModel" "matched" "[I", Cond.lays "TypeFinderModel" "TypeFinderModel" "shown" "I", Cond.laysFinal "TypeFinderModel" "TypeFinderModel" "text" "[I", Cond.lays "TypeFinderModel" "TypeFinderModel" "defined" "I", Cond.lays "TypeFinderModel" "TypeFinderModel" "self" "I", Cond.lays "TypeFinderModel" "TypeFinderModel" "selfParameters" "I", Cond.lays "TypeFinderModel" "TypeFinderModel" "pieces" "I", Cond.laysFinal "TypeFinderModel" "TypeFinderModel" "piece" "[I", Cond.laysFinal "TypeFinderModel" "TypeFinderModel" "pieceWord" "[I", Cond.laysFinal "TypeFinderModel" "TypeFinderModel" "pieceParts" "[I", Cond.laysFinal "TypeFinderModel" "TypeFinderModel" "parameterWord" "[I", Cond.lays "TypeFinderModel" "TypeFinderModel" "choices" "I", Cond.laysFinal "TypeFinderModel" "TypeFinderModel" "choiceWord" "[I", Cond.laysFinal "TypeFinderModel" "TypeFinderModel" "choiceParts" "[I"] := by rfl
set_option maxRecDepth 100000 in
theorem cf_14 : xb_cf 14 R_14 F_14 80 t_14 := ⟨rfl, fun w hw => by rw [uw_14] at hw; exact (List.forall_mem_cons.mpr ⟨k_538, List.forall_mem_cons.mpr ⟨k_539, List.forall_mem_cons.mpr ⟨k_540, List.forall_mem_cons.mpr ⟨k_541, List.forall_mem_cons.mpr ⟨k_542, List.forall_mem_cons.mpr ⟨k_543, List.forall_mem_cons.mpr ⟨k_544, List.forall_mem_cons.mpr ⟨k_545, List.forall_mem_cons.mpr ⟨k_546, List.forall_mem_cons.mpr ⟨k_547, List.forall_mem_cons.mpr ⟨k_548, List.forall_mem_cons.mpr ⟨k_549, List.forall_mem_cons.mpr ⟨k_550, List.forall_mem_cons.mpr ⟨k_551, List.forall_mem_cons.mpr ⟨k_552, List.forall_mem_cons.mpr ⟨k_553, List.forall_mem_cons.mpr ⟨k_554, List.forall_mem_cons.mpr ⟨k_555, List.forall_mem_cons.mpr ⟨k_556, List.forall_mem_cons.mpr ⟨k_557, List.forall_mem_cons.mpr ⟨k_558, List.forall_mem_cons.mpr ⟨k_559, List.forall_mem_cons.mpr ⟨k_560, List.forall_mem_cons.mpr ⟨k_561, List.forall_mem_cons.mpr ⟨k_562, List.forall_mem_cons.mpr ⟨k_563, List.forall_mem_cons.mpr ⟨k_564, List.forall_mem_cons.mpr ⟨k_565, List.forall_mem_cons.mpr ⟨k_566, List.forall_mem_cons.mpr ⟨k_567, List.forall_mem_cons.mpr ⟨k_568, List.forall_mem_cons.mpr ⟨k_569, List.forall_mem_cons.mpr ⟨k_570, List.forall_mem_cons.mpr ⟨k_571, List.forall_mem_cons.mpr ⟨k_572, List.forall_mem_cons.mpr ⟨k_573, List.forall_mem_cons.mpr ⟨k_574, List.forall_mem_cons.mpr ⟨k_575, List.forall_mem_cons.mpr ⟨k_576, List.forall_mem_cons.mpr ⟨k_577, List.forall_mem_cons.mpr ⟨k_578, List.forall_mem_cons.mpr ⟨k_579, List.forall_mem_cons.mpr ⟨k_580, List.forall_mem_cons.mpr ⟨k_581, List.forall_mem_cons.mpr ⟨k_582, List.forall_mem_cons.mpr ⟨k_583, List.forall_mem_cons.mpr ⟨k_584, List.forall_mem_cons.mpr ⟨k_585, List.forall_mem_cons.mpr ⟨k_586, List.forall_mem_cons.mpr ⟨k_587, List.forall_mem_cons.mpr ⟨k_588, List.forall_mem_cons.mpr ⟨k_589, List.forall_mem_cons.mpr ⟨k_590, List.forall_mem_cons.mpr ⟨k_591, List.forall_mem_cons.mpr ⟨k_592, List.forall_mem_cons.mpr ⟨k_593, List.forall_mem_cons.mpr ⟨k_594, List.forall_mem_cons.mpr ⟨k_595, List.forall_mem_cons.mpr ⟨k_596, List.forall_mem_cons.mpr ⟨k_597, List.forall_mem_cons.mpr ⟨k_598, List.forall_mem_cons.mpr ⟨k_599, List.forall_mem_cons.mpr ⟨k_600, List.forall_mem_cons.mpr ⟨k_601, List.forall_mem_cons.mpr ⟨k_602, List.forall_mem_cons.mpr ⟨k_603, List.forall_mem_cons.mpr ⟨k_604, List.forall_mem_cons.mpr ⟨k_605, List.forall_mem_cons.mpr ⟨k_606, List.forall_mem_cons.mpr ⟨k_607, List.forall_mem_cons.mpr ⟨k_608, List.forall_mem_cons.mpr ⟨k_609, List.forall_mem_cons.mpr ⟨k_610, List.forall_mem_cons.mpr ⟨k_611, List.forall_mem_cons.mpr ⟨k_612, List.forall_mem_cons.mpr ⟨k_613, List.forall_mem_cons.mpr ⟨k_614, List.forall_mem_cons.mpr ⟨k_615, List.forall_mem_cons.mpr ⟨k_616, List.forall_mem_cons.mpr ⟨k_617, fun _ h => absurd h List.not_mem_nil⟩⟩⟩⟩⟩⟩⟩⟩⟩⟩⟩⟩⟩⟩⟩⟩⟩⟩⟩⟩⟩⟩⟩⟩⟩⟩⟩⟩⟩⟩⟩⟩⟩⟩⟩⟩⟩⟩⟩⟩⟩⟩⟩⟩⟩⟩⟩⟩⟩⟩⟩⟩⟩⟩⟩⟩⟩⟩⟩⟩⟩⟩⟩⟩⟩⟩⟩⟩⟩⟩⟩⟩⟩⟩⟩⟩⟩⟩⟩⟩) w hw, by decide +kernel, by decide +kernel⟩
theorem df_14 : ∀ j, j < 80 → defaultValue (t_14 j) = vp_V [.int 0, .int 0, .int 0, .null, .int 0, .null, .null, .null, .null, .int 0, .null, .null, .null, .int 0, .null, .null, .null, .null, .int 0, .null, .null, .null, .null, .null, .int 0, .int 0, .int 0, .null, .null, .null, .int 0, .null, .null, .null, .null, .null, .null, .int 0, .int 0, .int 0, .int 0, .null, .int 0, .null, .null, .null, .null, .null, .int 0, .int 0, .null, .null, .int 0, .null, .int 0, .null, .null, .int 0, .null, .null, .int 0, .null, .null, .int 0, .int 0, .int 0, .null, .int 0, .null, .int 0, .int 0, .int 0, .int 0, .null, .null, .null, .null, .int 0, .null, .null] j := by decide +kernel
theorem cf_S : xb_cf xb_iS R_13 F_13 4 t_13 := cf_13
theorem hd_String_coder : y_String_coder.cls ≠ "java/lang/invoke/MethodHandle" ∧ y_String_coder.cls ≠ "java/lang/invoke/VarHandle" ∧ (parseMethodDescriptor y_String_coder.desc).map (fun d => d.parameters.length) = some 0 := by decide +kernel
theorem hd_String_isLatin1 : y_String_isLatin1.cls ≠ "java/lang/invoke/MethodHandle" ∧ y_String_isLatin1.cls ≠ "java/lang/invoke/VarHandle" ∧ (parseMethodDescriptor y_String_isLatin1.desc).map (fun d => d.parameters.length) = some 0 := by decide +kernel
theorem hd_String_length : y_String_length.cls ≠ "java/lang/invoke/MethodHandle" ∧ y_String_length.cls ≠ "java/lang/invoke/VarHandle" ∧ (parseMethodDescriptor y_String_length.desc).map (fun d => d.parameters.length) = some 0 := by decide +kernel
theorem hd_Preconditions_checkIndex : y_Preconditions_checkIndex.cls ≠ "java/lang/invoke/MethodHandle" ∧ y_Preconditions_checkIndex.cls ≠ "java/lang/invoke/VarHandle" ∧ (parseMethodDescriptor y_Preconditions_checkIndex.desc).map (fun d => d.parameters.length) = some 3 := by decide +kernel
theorem hd_String_checkIndex : y_String_checkIndex.cls ≠ "java/lang/invoke/MethodHandle" ∧ y_String_checkIndex.cls ≠ "java/lang/invoke/VarHandle" ∧ (parseMethodDescriptor y_String_checkIndex.desc).map (fun d => d.parameters.length) = some 2 := by decide +kernel
theorem hd_StringLatin1_charAt : y_StringLatin1_charAt.cls ≠ "java/lang/invoke/MethodHandle" ∧ y_StringLatin1_charAt.cls ≠ "java/lang/invoke/VarHandle" ∧ (parseMethodDescriptor y_StringLatin1_charAt.desc).map (fun d => d.parameters.length) = some 2 := by decide +kernel
theorem hd_String_charAt : y_String_charAt.cls ≠ "java/lang/invoke/MethodHandle" ∧ y_String_charAt.cls ≠ "java/lang/invoke/VarHandle" ∧ (parseMethodDescriptor y_String_charAt.desc).map (fun d => d.parameters.length) = some 1 := by decide +kernel
theorem hd_AbstractCollection_init : y_AbstractCollection_init.cls ≠ "java/lang/invoke/MethodHandle" ∧ y_AbstractCollection_init.cls ≠ "java/lang/invoke/VarHandle" ∧ (parseMethodDescriptor y_AbstractCollection_init.desc).map (fun d => d.parameters.length) = some 0 := by decide +kernel
theorem hd_AbstractList_init : y_AbstractList_init.cls ≠ "java/lang/invoke/MethodHandle" ∧ y_AbstractList_init.cls ≠ "java/lang/invoke/VarHandle" ∧ (parseMethodDescriptor y_AbstractList_init.desc).map (fun d => d.parameters.length) = some 0 := by decide +kernel
theorem hd_ArrayList_init : y_ArrayList_init.cls ≠ "java/lang/invoke/MethodHandle" ∧ y_ArrayList_init.cls ≠ "java/lang/invoke/VarHandle" ∧ (parseMethodDescriptor y_ArrayList_init.desc).map (fun d => d.parameters.length) = some 0 := by decide +kernel
theorem hd_ArrayList_grow : y_ArrayList_grow.cls ≠ "java/lang/invoke/MethodHandle" ∧ y_ArrayList_grow.cls ≠ "java/lang/invoke/VarHandle" ∧ (parseMethodDescriptor y_ArrayList_grow.desc).map (fun d => d.parameters.length) = some 1 := by decide +kernel
theorem hd_ArrayList_grow2 : y_ArrayList_grow2.cls ≠ "java/lang/invoke/MethodHandle" ∧ y_ArrayList_grow2.cls ≠ "java/lang/invoke/VarHandle" ∧ (parseMethodDescriptor y_ArrayList_grow2.desc).map (fun d => d.parameters.length) = some 0 := by decide +kernel
theorem hd_ArrayList_add : y_ArrayList_add.cls ≠ "java/lang/invoke/MethodHandle" ∧ y_ArrayList_add.cls ≠ "java/lang/invoke/VarHandle" ∧ (parseMethodDescriptor y_ArrayList_add.desc).map (fun d => d.parameters.length) = some 3 := by decide +kernel
theorem hd_ArrayList_add2 : y_ArrayList_add2.cls ≠ "java/lang/invoke/MethodHandle" ∧ y_ArrayList_add2.cls ≠ "java/lang/invoke/VarHandle" ∧ (parseMethodDescriptor y_ArrayList_add2.desc).map (fun d => d.parameters.length) = some 1 := by decide +kernel
theorem hd_AbstractStringBuilder_init : y_AbstractStringBuilder_init.cls ≠ "java/lang/invoke/MethodHandle" ∧ y_AbstractStringBuilder_init.cls ≠ "java/lang/invoke/VarHandle" ∧ (parseMethodDescriptor y_AbstractStringBuilder_init.desc).map (fun d => d.parameters.length) = some 1 := by decide +kernel
theorem hd_StringBuilder_init : y_StringBuilder_init.cls ≠ "java/lang/invoke/MethodHandle" ∧ y_StringBuilder_init.cls ≠ "java/lang/invoke/VarHandle" ∧ (parseMethodDescriptor y_StringBuilder_init.desc).map (fun d => d.parameters.length) = some 0 := by decide +kernel
theorem hd_TypeFinder_Type_init : y_TypeFinder_Type_init.cls ≠ "java/lang/invoke/MethodHandle" ∧ y_TypeFinder_Type_init.cls ≠ "java/lang/invoke/VarHandle" ∧ (parseMethodDescriptor y_TypeFinder_Type_init.desc).map (fun d => d.parameters.length) = some 4 := by decide +kernel
theorem hd_TypeFinder_Name_init : y_TypeFinder_Name_init.cls ≠ "java/lang/invoke/MethodHandle" ∧ y_TypeFinder_Name_init.cls ≠ "java/lang/invoke/VarHandle" ∧ (parseMethodDescriptor y_TypeFinder_Name_init.desc).map (fun d => d.parameters.length) = some 3 := by decide +kernel
theorem hd_TypeFinder_Unifier_function : y_TypeFinder_Unifier_function.cls ≠ "java/lang/invoke/MethodHandle" ∧ y_TypeFinder_Unifier_function.cls ≠ "java/lang/invoke/VarHandle" ∧ (parseMethodDescriptor y_TypeFinder_Unifier_function.desc).map (fun d => d.parameters.length) = some 2 := by decide +kernel
theorem hd_TypeFinder_DataType_init : y_TypeFinder_DataType_init.cls ≠ "java/lang/invoke/MethodHandle" ∧ y_TypeFinder_DataType_init.cls ≠ "java/lang/invoke/VarHandle" ∧ (parseMethodDescriptor y_TypeFinder_DataType_init.desc).map (fun d => d.parameters.length) = some 2 := by decide +kernel
theorem hd_TypeFinder_DataType_made : y_TypeFinder_DataType_made.cls ≠ "java/lang/invoke/MethodHandle" ∧ y_TypeFinder_DataType_made.cls ≠ "java/lang/invoke/VarHandle" ∧ (parseMethodDescriptor y_TypeFinder_DataType_made.desc).map (fun d => d.parameters.length) = some 2 := by decide +kernel
theorem hd_TypeFinder_Unifier_init : y_TypeFinder_Unifier_init.cls ≠ "java/lang/invoke/MethodHandle" ∧ y_TypeFinder_Unifier_init.cls ≠ "java/lang/invoke/VarHandle" ∧ (parseMethodDescriptor y_TypeFinder_Unifier_init.desc).map (fun d => d.parameters.length) = some 0 := by decide +kernel
theorem hd_TypeFinder_Checker_init : y_TypeFinder_Checker_init.cls ≠ "java/lang/invoke/MethodHandle" ∧ y_TypeFinder_Checker_init.cls ≠ "java/lang/invoke/VarHandle" ∧ (parseMethodDescriptor y_TypeFinder_Checker_init.desc).map (fun d => d.parameters.length) = some 1 := by decide +kernel
theorem hd_TypeFinder_Writer_init : y_TypeFinder_Writer_init.cls ≠ "java/lang/invoke/MethodHandle" ∧ y_TypeFinder_Writer_init.cls ≠ "java/lang/invoke/VarHandle" ∧ (parseMethodDescriptor y_TypeFinder_Writer_init.desc).map (fun d => d.parameters.length) = some 0 := by decide +kernel
theorem hd_TypeFinder_DataParser_init : y_TypeFinder_DataParser_init.cls ≠ "java/lang/invoke/MethodHandle" ∧ y_TypeFinder_DataParser_init.cls ≠ "java/lang/invoke/VarHandle" ∧ (parseMethodDescriptor y_TypeFinder_DataParser_init.desc).map (fun d => d.parameters.length) = some 1 := by decide +kernel
theorem hd_TypeFinder_Tokens_packed : y_TypeFinder_Tokens_packed.cls ≠ "java/lang/invoke/MethodHandle" ∧ y_TypeFinder_Tokens_packed.cls ≠ "java/lang/invoke/VarHandle" ∧ (parseMethodDescriptor y_TypeFinder_Tokens_packed.desc).map (fun d => d.parameters.length) = some 1 := by decide +kernel
theorem hd_ArrayList_size : y_ArrayList_size.cls ≠ "java/lang/invoke/MethodHandle" ∧ y_ArrayList_size.cls ≠ "java/lang/invoke/VarHandle" ∧ (parseMethodDescriptor y_ArrayList_size.desc).map (fun d => d.parameters.length) = some 0 := by decide +kernel
theorem hd_TypeFinder_Known_init : y_TypeFinder_Known_init.cls ≠ "java/lang/invoke/MethodHandle" ∧ y_TypeFinder_Known_init.cls ≠ "java/lang/invoke/VarHandle" ∧ (parseMethodDescriptor y_TypeFinder_Known_init.desc).map (fun d => d.parameters.length) = some 0 := by decide +kernel
theorem hd_TypeFinder_Tokens_init : y_TypeFinder_Tokens_init.cls ≠ "java/lang/invoke/MethodHandle" ∧ y_TypeFinder_Tokens_init.cls ≠ "java/lang/invoke/VarHandle" ∧ (parseMethodDescriptor y_TypeFinder_Tokens_init.desc).map (fun d => d.parameters.length) = some 0 := by decide +kernel
theorem hd_TypeFinder_Parser_init : y_TypeFinder_Parser_init.cls ≠ "java/lang/invoke/MethodHandle" ∧ y_TypeFinder_Parser_init.cls ≠ "java/lang/invoke/VarHandle" ∧ (parseMethodDescriptor y_TypeFinder_Parser_init.desc).map (fun d => d.parameters.length) = some 0 := by decide +kernel
theorem hd_TypeFinder_init : y_TypeFinder_init.cls ≠ "java/lang/invoke/MethodHandle" ∧ y_TypeFinder_init.cls ≠ "java/lang/invoke/VarHandle" ∧ (parseMethodDescriptor y_TypeFinder_init.desc).map (fun d => d.parameters.length) = some 0 := by decide +kernel
theorem hd_TypeFinderModel_wordOf : y_TypeFinderModel_wordOf.cls ≠ "java/lang/invoke/MethodHandle" ∧ y_TypeFinderModel_wordOf.cls ≠ "java/lang/invoke/VarHandle" ∧ (parseMethodDescriptor y_TypeFinderModel_wordOf.desc).map (fun d => d.parameters.length) = some 1 := by decide +kernel
theorem hd_TypeFinderModel_setName : y_TypeFinderModel_setName.cls ≠ "java/lang/invoke/MethodHandle" ∧ y_TypeFinderModel_setName.cls ≠ "java/lang/invoke/VarHandle" ∧ (parseMethodDescriptor y_TypeFinderModel_setName.desc).map (fun d => d.parameters.length) = some 6 := by decide +kernel
theorem hd_TypeFinderModel_init : y_TypeFinderModel_init.cls ≠ "java/lang/invoke/MethodHandle" ∧ y_TypeFinderModel_init.cls ≠ "java/lang/invoke/VarHandle" ∧ (parseMethodDescriptor y_TypeFinderModel_init.desc).map (fun d => d.parameters.length) = some 0 := by decide +kernel
theorem hd_TypeFinder_takeDraft : y_TypeFinder_takeDraft.cls ≠ "java/lang/invoke/MethodHandle" ∧ y_TypeFinder_takeDraft.cls ≠ "java/lang/invoke/VarHandle" ∧ (parseMethodDescriptor y_TypeFinder_takeDraft.desc).map (fun d => d.parameters.length) = some 0 := by decide +kernel
theorem hd_TypeFinder_Tokens_put : y_TypeFinder_Tokens_put.cls ≠ "java/lang/invoke/MethodHandle" ∧ y_TypeFinder_Tokens_put.cls ≠ "java/lang/invoke/VarHandle" ∧ (parseMethodDescriptor y_TypeFinder_Tokens_put.desc).map (fun d => d.parameters.length) = some 2 := by decide +kernel
theorem hd_TypeFinder_Tokens_read : y_TypeFinder_Tokens_read.cls ≠ "java/lang/invoke/MethodHandle" ∧ y_TypeFinder_Tokens_read.cls ≠ "java/lang/invoke/VarHandle" ∧ (parseMethodDescriptor y_TypeFinder_Tokens_read.desc).map (fun d => d.parameters.length) = some 2 := by decide +kernel
theorem hd_TypeFinder_Tokens_accept : y_TypeFinder_Tokens_accept.cls ≠ "java/lang/invoke/MethodHandle" ∧ y_TypeFinder_Tokens_accept.cls ≠ "java/lang/invoke/VarHandle" ∧ (parseMethodDescriptor y_TypeFinder_Tokens_accept.desc).map (fun d => d.parameters.length) = some 1 := by decide +kernel
theorem hd_TypeFinder_Tokens_is : y_TypeFinder_Tokens_is.cls ≠ "java/lang/invoke/MethodHandle" ∧ y_TypeFinder_Tokens_is.cls ≠ "java/lang/invoke/VarHandle" ∧ (parseMethodDescriptor y_TypeFinder_Tokens_is.desc).map (fun d => d.parameters.length) = some 1 := by decide +kernel
theorem hd_TypeFinder_Tokens_kindBehind : y_TypeFinder_Tokens_kindBehind.cls ≠ "java/lang/invoke/MethodHandle" ∧ y_TypeFinder_Tokens_kindBehind.cls ≠ "java/lang/invoke/VarHandle" ∧ (parseMethodDescriptor y_TypeFinder_Tokens_kindBehind.desc).map (fun d => d.parameters.length) = some 0 := by decide +kernel
theorem hd_TypeFinder_Tokens_take : y_TypeFinder_Tokens_take.cls ≠ "java/lang/invoke/MethodHandle" ∧ y_TypeFinder_Tokens_take.cls ≠ "java/lang/invoke/VarHandle" ∧ (parseMethodDescriptor y_TypeFinder_Tokens_take.desc).map (fun d => d.parameters.length) = some 1 := by decide +kernel
theorem hd_TypeFinder_Parser_definition : y_TypeFinder_Parser_definition.cls ≠ "java/lang/invoke/MethodHandle" ∧ y_TypeFinder_Parser_definition.cls ≠ "java/lang/invoke/VarHandle" ∧ (parseMethodDescriptor y_TypeFinder_Parser_definition.desc).map (fun d => d.parameters.length) = some 1 := by decide +kernel
theorem hd_TypeFinder_Parser_declaration : y_TypeFinder_Parser_declaration.cls ≠ "java/lang/invoke/MethodHandle" ∧ y_TypeFinder_Parser_declaration.cls ≠ "java/lang/invoke/VarHandle" ∧ (parseMethodDescriptor y_TypeFinder_Parser_declaration.desc).map (fun d => d.parameters.length) = some 2 := by decide +kernel
theorem hd_TypeFinder_Parser_atom : y_TypeFinder_Parser_atom.cls ≠ "java/lang/invoke/MethodHandle" ∧ y_TypeFinder_Parser_atom.cls ≠ "java/lang/invoke/VarHandle" ∧ (parseMethodDescriptor y_TypeFinder_Parser_atom.desc).map (fun d => d.parameters.length) = some 1 := by decide +kernel
theorem hd_TypeFinder_Parser_application : y_TypeFinder_Parser_application.cls ≠ "java/lang/invoke/MethodHandle" ∧ y_TypeFinder_Parser_application.cls ≠ "java/lang/invoke/VarHandle" ∧ (parseMethodDescriptor y_TypeFinder_Parser_application.desc).map (fun d => d.parameters.length) = some 1 := by decide +kernel
theorem hd_TypeFinder_Parser_chain : y_TypeFinder_Parser_chain.cls ≠ "java/lang/invoke/MethodHandle" ∧ y_TypeFinder_Parser_chain.cls ≠ "java/lang/invoke/VarHandle" ∧ (parseMethodDescriptor y_TypeFinder_Parser_chain.desc).map (fun d => d.parameters.length) = some 1 := by decide +kernel
theorem hd_TypeFinder_Parser_expression : y_TypeFinder_Parser_expression.cls ≠ "java/lang/invoke/MethodHandle" ∧ y_TypeFinder_Parser_expression.cls ≠ "java/lang/invoke/VarHandle" ∧ (parseMethodDescriptor y_TypeFinder_Parser_expression.desc).map (fun d => d.parameters.length) = some 1 := by decide +kernel
theorem hd_TypeFinder_Parser_question : y_TypeFinder_Parser_question.cls ≠ "java/lang/invoke/MethodHandle" ∧ y_TypeFinder_Parser_question.cls ≠ "java/lang/invoke/VarHandle" ∧ (parseMethodDescriptor y_TypeFinder_Parser_question.desc).map (fun d => d.parameters.length) = some 2 := by decide +kernel
theorem hd_TypeFinder_declare : y_TypeFinder_declare.cls ≠ "java/lang/invoke/MethodHandle" ∧ y_TypeFinder_declare.cls ≠ "java/lang/invoke/VarHandle" ∧ (parseMethodDescriptor y_TypeFinder_declare.desc).map (fun d => d.parameters.length) = some 0 := by decide +kernel
theorem hd_TypeFinder_ask : y_TypeFinder_ask.cls ≠ "java/lang/invoke/MethodHandle" ∧ y_TypeFinder_ask.cls ≠ "java/lang/invoke/VarHandle" ∧ (parseMethodDescriptor y_TypeFinder_ask.desc).map (fun d => d.parameters.length) = some 0 := by decide +kernel
theorem hd_Preconditions_checkFromToIndex : y_Preconditions_checkFromToIndex.cls ≠ "java/lang/invoke/MethodHandle" ∧ y_Preconditions_checkFromToIndex.cls ≠ "java/lang/invoke/VarHandle" ∧ (parseMethodDescriptor y_Preconditions_checkFromToIndex.desc).map (fun d => d.parameters.length) = some 4 := by decide +kernel
theorem hd_String_checkBoundsBeginEnd : y_String_checkBoundsBeginEnd.cls ≠ "java/lang/invoke/MethodHandle" ∧ y_String_checkBoundsBeginEnd.cls ≠ "java/lang/invoke/VarHandle" ∧ (parseMethodDescriptor y_String_checkBoundsBeginEnd.desc).map (fun d => d.parameters.length) = some 3 := by decide +kernel
theorem hd_Arrays_checkLength : y_Arrays_checkLength.cls ≠ "java/lang/invoke/MethodHandle" ∧ y_Arrays_checkLength.cls ≠ "java/lang/invoke/VarHandle" ∧ (parseMethodDescriptor y_Arrays_checkLength.desc).map (fun d => d.parameters.length) = some 2 := by decide +kernel
theorem hd_Arrays_copyOfRangeByte : y_Arrays_copyOfRangeByte.cls ≠ "java/lang/invoke/MethodHandle" ∧ y_Arrays_copyOfRangeByte.cls ≠ "java/lang/invoke/VarHandle" ∧ (parseMethodDescriptor y_Arrays_copyOfRangeByte.desc).map (fun d => d.parameters.length) = some 3 := by decide +kernel
theorem hd_Arrays_copyOfRange : y_Arrays_copyOfRange.cls ≠ "java/lang/invoke/MethodHandle" ∧ y_Arrays_copyOfRange.cls ≠ "java/lang/invoke/VarHandle" ∧ (parseMethodDescriptor y_Arrays_copyOfRange.desc).map (fun d => d.parameters.length) = some 3 := by decide +kernel
theorem hd_String_init : y_String_init.cls ≠ "java/lang/invoke/MethodHandle" ∧ y_String_init.cls ≠ "java/lang/invoke/VarHandle" ∧ (parseMethodDescriptor y_String_init.desc).map (fun d => d.parameters.length) = some 2 := by decide +kernel
theorem hd_StringLatin1_newString : y_StringLatin1_newString.cls ≠ "java/lang/invoke/MethodHandle" ∧ y_StringLatin1_newString.cls ≠ "java/lang/invoke/VarHandle" ∧ (parseMethodDescriptor y_StringLatin1_newString.desc).map (fun d => d.parameters.length) = some 3 := by decide +kernel
theorem hd_String_substring : y_String_substring.cls ≠ "java/lang/invoke/MethodHandle" ∧ y_String_substring.cls ≠ "java/lang/invoke/VarHandle" ∧ (parseMethodDescriptor y_String_substring.desc).map (fun d => d.parameters.length) = some 2 := by decide +kernel
theorem hd_TypeFinderModel_declare : y_TypeFinderModel_declare.cls ≠ "java/lang/invoke/MethodHandle" ∧ y_TypeFinderModel_declare.cls ≠ "java/lang/invoke/VarHandle" ∧ (parseMethodDescriptor y_TypeFinderModel_declare.desc).map (fun d => d.parameters.length) = some 0 := by decide +kernel
theorem hd_TypeFinderModel_begin : y_TypeFinderModel_begin.cls ≠ "java/lang/invoke/MethodHandle" ∧ y_TypeFinderModel_begin.cls ≠ "java/lang/invoke/VarHandle" ∧ (parseMethodDescriptor y_TypeFinderModel_begin.desc).map (fun d => d.parameters.length) = some 0 := by decide +kernel
theorem hd_TypeFinderModel_split : y_TypeFinderModel_split.cls ≠ "java/lang/invoke/MethodHandle" ∧ y_TypeFinderModel_split.cls ≠ "java/lang/invoke/VarHandle" ∧ (parseMethodDescriptor y_TypeFinderModel_split.desc).map (fun d => d.parameters.length) = some 0 := by decide +kernel
theorem hd_TypeFinderModel_put : y_TypeFinderModel_put.cls ≠ "java/lang/invoke/MethodHandle" ∧ y_TypeFinderModel_put.cls ≠ "java/lang/invoke/VarHandle" ∧ (parseMethodDescriptor y_TypeFinderModel_put.desc).map (fun d => d.parameters.length) = some 2 := by decide +kernel
theorem hd_TypeFinderModel_peek : y_TypeFinderModel_peek.cls ≠ "java/lang/invoke/MethodHandle" ∧ y_TypeFinderModel_peek.cls ≠ "java/lang/invoke/VarHandle" ∧ (parseMethodDescriptor y_TypeFinderModel_peek.desc).map (fun d => d.parameters.length) = some 0 := by decide +kernel
theorem hd_TypeFinderModel_heading : y_TypeFinderModel_heading.cls ≠ "java/lang/invoke/MethodHandle" ∧ y_TypeFinderModel_heading.cls ≠ "java/lang/invoke/VarHandle" ∧ (parseMethodDescriptor y_TypeFinderModel_heading.desc).map (fun d => d.parameters.length) = some 0 := by decide +kernel
theorem hd_TypeFinderModel_expect : y_TypeFinderModel_expect.cls ≠ "java/lang/invoke/MethodHandle" ∧ y_TypeFinderModel_expect.cls ≠ "java/lang/invoke/VarHandle" ∧ (parseMethodDescriptor y_TypeFinderModel_expect.desc).map (fun d => d.parameters.length) = some 1 := by decide +kernel
theorem hd_TypeFinderModel_refuse : y_TypeFinderModel_refuse.cls ≠ "java/lang/invoke/MethodHandle" ∧ y_TypeFinderModel_refuse.cls ≠ "java/lang/invoke/VarHandle" ∧ (parseMethodDescriptor y_TypeFinderModel_refuse.desc).map (fun d => d.parameters.length) = some 1 := by decide +kernel
theorem hd_TypeFinderModel_ask : y_TypeFinderModel_ask.cls ≠ "java/lang/invoke/MethodHandle" ∧ y_TypeFinderModel_ask.cls ≠ "java/lang/invoke/VarHandle" ∧ (parseMethodDescriptor y_TypeFinderModel_ask.desc).map (fun d => d.parameters.length) = some 0 := by decide +kernel
theorem hd_TypeFinderModel_expression : y_TypeFinderModel_expression.cls ≠ "java/lang/invoke/MethodHandle" ∧ y_TypeFinderModel_expression.cls ≠ "java/lang/invoke/VarHandle" ∧ (parseMethodDescriptor y_TypeFinderModel_expression.desc).map (fun d => d.parameters.length) = some 0 := by decide +kernel
theorem hd_TypeFinderModel_beginExpression : y_TypeFinderModel_beginExpression.cls ≠ "java/lang/invoke/MethodHandle" ∧ y_TypeFinderModel_beginExpression.cls ≠ "java/lang/invoke/VarHandle" ∧ (parseMethodDescriptor y_TypeFinderModel_beginExpression.desc).map (fun d => d.parameters.length) = some 0 := by decide +kernel
theorem hd_TypeFinderModel_enter : y_TypeFinderModel_enter.cls ≠ "java/lang/invoke/MethodHandle" ∧ y_TypeFinderModel_enter.cls ≠ "java/lang/invoke/VarHandle" ∧ (parseMethodDescriptor y_TypeFinderModel_enter.desc).map (fun d => d.parameters.length) = some 3 := by decide +kernel
theorem hd_TypeFinderModel_within : y_TypeFinderModel_within.cls ≠ "java/lang/invoke/MethodHandle" ∧ y_TypeFinderModel_within.cls ≠ "java/lang/invoke/VarHandle" ∧ (parseMethodDescriptor y_TypeFinderModel_within.desc).map (fun d => d.parameters.length) = some 1 := by decide +kernel
theorem hd_TypeFinderModel_chain : y_TypeFinderModel_chain.cls ≠ "java/lang/invoke/MethodHandle" ∧ y_TypeFinderModel_chain.cls ≠ "java/lang/invoke/VarHandle" ∧ (parseMethodDescriptor y_TypeFinderModel_chain.desc).map (fun d => d.parameters.length) = some 0 := by decide +kernel
theorem hd_TypeFinderModel_atom : y_TypeFinderModel_atom.cls ≠ "java/lang/invoke/MethodHandle" ∧ y_TypeFinderModel_atom.cls ≠ "java/lang/invoke/VarHandle" ∧ (parseMethodDescriptor y_TypeFinderModel_atom.desc).map (fun d => d.parameters.length) = some 1 := by decide +kernel
end
section
/-! Methods that throw an IllegalArgumentException: their contracts, and a call of such a method in one that has no handler. -/
def xb_IAE (t : State) (x : Nat) : Prop := ∃ cell : Cell, t.heap[x]? = some cell ∧ cell.vm.isStatics = false ∧ t.vm.findClass "java/lang/IllegalArgumentException" = some cell.cls
def xb_TQ (wc : va_W) (sz : Nat) (rm : Room) : Array Value → State → Outcome → State → Prop := fun _ st oc t => ∃ x : Nat, oc = .threw x ∧ xb_IAE t x ∧ st.WarmedH t.vm ∧ (∃ L : List Loc, st.sameButNew ({ t with vm := st.vm } : State) L rm.cells rm.slots ∧ ∀ q ∈ L, va_A wc sz q.base) ∧ va_F (va_A wc sz) st t
def xb_CTT (l : Launch) (y : MethodName) (bytes : ByteArray) (maxL : Nat) (ret : Option FieldType) (rm : Room) (G : xb_EV) (ss : List (Nat × Nat × Nat × (Nat → Int32))) (av : List Value) (wc : va_W) : Prop :=
  ∀ sz : Nat, MetFree l y (headSpec (Cond.code y bytes maxL ret :: xb_g) rm) (va_Pc av (xb_pre G ss wc sz)) (fun _ _ _ _ _ => True) (xb_TQ wc sz rm)
def xb_MT (below : List Frame) (wc : va_W) (a : Array Value) (s : State) (rm : Room) : State → Prop := fun t => ∃ o, t.status = .running ∧ Ended t below o ∧ xb_TQ wc s.heap.size rm a s o t
section XBT
variable {p : Program} {l : Launch} {e : Env} {R : Room} {s : State} {m : MethodId} {args : Array Value} {below : List Frame} {meth : Method} {c : Code} {H : Heap} {locs : List Loc} {cells slots : Nat} {Q : State → Prop}
variable {cc : ByteArray} {nL pc : Nat} {own : String} {G : xb_EV} {ss : List (Nat × Nat × Nat × (Nat → Int32))} {A : Nat → Prop} {ls : Array Slot} {rest st0 : List Value} {ws wc wc0 wr : va_W}
theorem xb_CTT.of {y : MethodName} {bytes : ByteArray} {maxL : Nat} {ret : Option FieldType} {rm : Room} {av : List Value} (hy : plainFor y = true) (own : String) (hown : y.cls = own)
    (body : ∀ (p : Program) (e : Env) (s : State) (m : MethodId) (args : Array Value) (below : List Frame) (meth : Method) (c : Code) (A : Nat → Prop) (ls : Array Slot), l.admits e → xb_F p s m args c bytes maxL own G ss A → c.exceptionTable.isEmpty = true → meth.locks = false → xb_W G A s wc s.heap [] → lv_has ls maxL (lv_args 0 av) → (∀ q, A q ↔ va_A wc s.heap.size q) →
      W p l e rm s m args below meth c s.heap [] 0 0 (xb_MT below wc args s rm) (F0 m 0 ls [])) (hlen : (lg_sl av).length ≤ maxL) :
    xb_CTT l y bytes maxL ret rm G ss av wc := by
  intro sz
  refine MetFree.of_bodySF (code := bytes) (maxLocals := maxL) (ret := ret) hy ?_ ?_
  · intro args s m h hn
    obtain ⟨meth, c, h1, h2, h3, h4, h5, h6, -, -⟩ := Cond.code_spec hn (atoms_spec (ws := Cond.code y bytes maxL ret :: xb_g) h _ List.mem_cons_self)
    exact ⟨meth, c, h1, h2, h3, h4, h5, h6⟩
  · intro p e s m args below meth c s₁ B hml hv _
    obtain ⟨rfl, hsz, hP, hK, hD0, hE, hSS⟩ := hv
    subst hsz
    have hts := atoms_spec (ws := Cond.code y bytes maxL ret :: xb_g) B.pre
    have hl := lv_entry av (n := maxL) hlen
    have hh0 : s₁.heap = s.heap := by rw [B.state]; rfl
    obtain ⟨t, a1, o, b1, b2, b3⟩ := body p e s m av.toArray below meth c (va_A wc s.heap.size) _ B.admits ⟨⟨B.exec, B.bytes, hml, by rw [← hown]; exact findClass_of_methodNamed B.named, fun w hw => hts w (List.mem_cons_of_mem _ hw)⟩, hK, fun q h => Or.inr h, hE, hSS⟩ (B.noHandlers (hts _ List.mem_cons_self)) B.notSynchronized ⟨hP, hD0.self (sz := s.heap.size), va_S.rf⟩ hl (fun _ => Iff.rfl) s₁ hh0 (Stand.of_body B)
    rw [lg_entry_eq]
    exact ⟨t, o, a1, b1, b2, b3⟩
theorem xb_thr {y : MethodName} {bytes : ByteArray} {maxL : Nat} {ret : Option FieldType} {rm : Room} {ss' : List (Nat × Nat × Nat × (Nat → Int32))} {av : List Value} {U : State} (X : Stand p l e R s m args below meth c U locs cells slots) (hM : xb_CTT l y bytes maxL ret rm G ss' av wc) {g : JFrame} {ig : Instr} {len : Nat} (hg : g.method = m) (hsize : g.locals.size = c.maxLocals) (hdg : decode c.code g.pc = .ok (ig, len)) (hW : 2 * g.monitorRoom + (g.stack.map fun v => v.category).sum ≤ 8) {mk : MethodId} (hn : U.methodNamed? y = some mk)
    (h1 : ∀ w ∈ Cond.code y bytes maxL ret :: xb_g, w.before av.toArray U = true) (h3 : (Cond.initialized y.cls).before av.toArray U = true) (hpre : xb_pre G ss' wc U.heap.size U) (hRm : rm.frames + 1 ≤ R.frames ∧ 8 + (maxL + 11) + rm.locals ≤ R.locals) (h4 : cells + rm.cells ≤ R.cells) (h5 : slots + rm.slots ≤ R.slots) :
    ∃ (x : Nat) (T' : State) (L : List Loc), Stand p l e R s m args below meth c T' (locs ++ L) (cells + rm.cells) (slots + rm.slots) ∧ (∀ q ∈ L, va_A wc U.heap.size q.base) ∧ xb_IAE T' x ∧ va_F (va_A wc U.heap.size) U T' ∧ ∀ acts, Steps p.tables e below (doInvoke e (U.setTop g) acts mk av.toArray).1 ((T'.setTop g).pushFrame (.throwing x)) := by
  obtain ⟨methY, cY, hmY, hcY, -, hlY, -, -, -, -⟩ := Cond.code_spec hn (h1 _ List.mem_cons_self)
  obtain ⟨kY, hkY, -⟩ := className_of_methodNamed hn
  have hinitY : kY.init = .initialized := Cond.initialized_spec (findClass_of_methodNamed hn) hkY h3
  have h : At U g.method c below := by rw [hg]; exact X.here
  have happ : (headSpec (Cond.code y bytes maxL ret :: xb_g) rm).appliesLoose y e.platform (U.calling g mk av.toArray) = true :=
    Spec.appliesLoose_calling (g := g) h hdg hn hkY hinitY
      (X.room_calling (g := g) (R' := rm) hsize hmY hcY hRm.1 (by rw [hlY]; omega) h4 h5) (atoms_intro h1)
  obtain ⟨mid, hmid⟩ := h.above
  have hfr : (U.setTop g).frames = (.java g :: mid) ++ below := by rw [State.frames_setTop' g h.top, hmid]; rfl
  obtain ⟨o, s₂, hsteps, -, hend, hq⟩ := Steps.callFree (hM U.heap.size) p X.admits X.cas X.clock (acts := []) hfr happ (xb_blind av.toArray U g mk ⟨rfl, hpre⟩) trivial
  have hq' : xb_TQ wc U.heap.size rm av.toArray (U.calling g mk av.toArray) o s₂ := hq
  rw [State.frames_setTop' g h.top, X.tail] at hend
  obtain ⟨x, rfl, hI, hW2, ⟨L, hsame, hL⟩, hF⟩ := hq'
  obtain ⟨T', X', hWT, hsame', ht⟩ := X.outOfThrown hg hend hW2 hsame
  subst ht
  have hh : ((T'.setTop g).pushFrame (.throwing x)).heap = T'.heap := Stand.throwing_heap T' g x
  have hv : ((T'.setTop g).pushFrame (.throwing x)).vm = T'.vm := Stand.throwing_vm T' g x
  refine ⟨x, T', L, X', hL, ?_, ?_, fun acts => by rw [doInvoke_state]; exact hsteps⟩
  · obtain ⟨cell, i1, i2, i3⟩ := hI
    rw [hh] at i1
    rw [hv] at i3
    exact ⟨cell, i1, i2, i3⟩
  · obtain ⟨f1, f2⟩ := hF
    rw [hh] at f1
    exact ⟨f1, fun q a b => by have := f2 q a b; rw [hh] at this; exact this⟩
/-- the end of a method without handlers, into which an exception has come -/
theorem xb_out {rm rm0 : Room} (hlk : meth.locks = false) (hno : c.exceptionTable.isEmpty = true) (hS : va_S A s.heap H locs) (hF : ∀ q, va_A wc H.size q → A q) (hA : ∀ q, A q ↔ va_A wc0 s.heap.size q) {U T' T : State} {g0 : JFrame} {L : List Loc} {x : Nat} (hU : U.heap = H) (X' : Stand p l e R s m args below meth c T' (locs ++ L) (cells + rm.cells) (slots + rm.slots)) (hL : ∀ q ∈ L, va_A wc U.heap.size q.base) (hI : xb_IAE T' x) (hF' : va_F (va_A wc U.heap.size) U T')
    (hc : cells + rm.cells ≤ rm0.cells) (hs : slots + rm.slots ≤ rm0.slots) (st : Steps p.tables e below (T.setTop g0) ((T'.setTop (F0 m pc ls rest)).pushFrame (.throwing x))) : ∃ t, Steps p.tables e below (T.setTop g0) t ∧ xb_MT below wc0 args s rm0 t := by
  have hnil : c.exceptionTable.toList = [] := by
    have h0 : c.exceptionTable.size = 0 := by simpa [Array.isEmpty] using hno
    exact List.eq_nil_of_length_eq_zero (by simpa using h0)
  obtain ⟨w1, w2, w3, w4, w5⟩ := X'.leaveThrown x (g := F0 m pc ls rest) rfl rfl rfl (fun y hy => by rw [hnil] at hy; cases hy) hlk
  refine ⟨_, st.trans w1, .threw x, w2, w3, x, rfl, hI, w4, ⟨locs ++ L, w5.mono hc hs, fun q hq => ?_⟩, ?_⟩
  · rcases List.mem_append.mp hq with h | h
    · exact (hA _).1 (hS.2.2 q h)
    · exact (hA _).1 (hF _ (by rw [← hU]; exact hL q h))
  · obtain ⟨f1, f2⟩ := hF'
    rw [hU] at f1 f2
    exact ⟨Nat.le_trans hS.1 f1, fun q a b => (f2 q (Nat.lt_of_lt_of_le a hS.1) (fun z => b ((hA q).1 (hF q z)))).trans (hS.2.1 q a (fun z => b ((hA q).1 z)))⟩
theorem xb_throwV {y : MethodName} {bytes : ByteArray} {maxL index : Nat} {ret : Option FieldType} {rm rm0 : Room} {ss' : List (Nat × Nat × Nat × (Nat → Int32))} {C : String} {b : Nat} {As : List Value} (F : xb_F p s m args c cc nL own G ss A) (hlk : meth.locks = false) (hno : c.exceptionTable.isEmpty = true) (hA : ∀ q, A q ↔ va_A wc0 s.heap.size q) (h : xb_W G A s ws H locs)
    (hM : xb_CTT l y bytes maxL ret rm G ss' (.ref b :: As) wc) (n : Nat) (hb : ∃ cell : Cell, H[b]? = some cell ∧ cell.vm.isStatics = false ∧ s.vm.findClass C = some cell.cls) (k1 : Cond.code y bytes maxL ret ∈ xb_g) (k2 : Cond.initialized y.cls ∈ xb_g) (k3 : Cond.methodLink own index y ∈ xb_g) (k4 : Cond.instanceMethod y ∈ xb_g) (k5 : Cond.selects C y y ∈ xb_g)
    (hd : y.cls ≠ "java/lang/invoke/MethodHandle" ∧ y.cls ≠ "java/lang/invoke/VarHandle" ∧ (parseMethodDescriptor y.desc).map (fun d => d.parameters.length) = some n) (hRm : rm.frames + 1 ≤ R.frames ∧ 8 + (maxL + 11) + rm.locals ≤ R.locals)
    (isC : List Nat) (hC : isC.map (fun i => ws[i]?) = wc.map some) (hc : va_nd isC = true)
    (hss : ∀ U : State, U.heap = H → s.WarmedH U.vm → xb_SS ss' (va_A wc H.size) U U.heap)
    (hl : ls.size = nL) (hAs : As.length = n) (hst : st0 = As.reverse ++ .ref b :: rest) (hro : (rest.map fun v => v.category).sum ≤ 8) (hf : cells + rm.cells ≤ R.cells ∧ slots + rm.slots ≤ R.slots) (hw : cells + rm.cells ≤ rm0.cells ∧ slots + rm.slots ≤ rm0.slots) (hdg : decode cc pc = .ok (.invokevirtual index, 3)) :
    W p l e R s m args below meth c H locs cells slots (xb_MT below wc0 args s rm0) (F0 m pc ls st0) := by
  obtain ⟨hP, hD, hS⟩ := id h
  have hF := va_free (wc := wc) hD hS F.2.2.1 isC hC
  have hts := F.1.2.2.2.2
  have hpay : ∀ w ∈ Cond.code y bytes maxL ret :: xb_g, ∀ (a' : Array Value) (U : State), s.WarmedH U.vm → w.before a' U = true := pay_in hts (xb_gcode k1)
  obtain ⟨cellB, hcB, hoB, hclB⟩ := hb
  obtain ⟨⟨hx, hbb, hml, ho, -⟩, -⟩ := id F
  intro T hT X
  obtain ⟨mk, methM, hnamed, hmethM, hstM, habM⟩ := Cond.instanceMethod_spec (hts _ k4)
  obtain ⟨methM', cM, hmethM', -, -, -, -, -, -, hsigM⟩ := Cond.code_spec hnamed (hts _ k1)
  cases hmethM.symm.trans hmethM'
  obtain ⟨c2, r2, m2, q1, q2, q3, q4, kP, hkP, hkPi⟩ := Cond.selects_spec (hts _ k5)
  cases hclB.symm.trans q1
  cases (State.methodFound?_of_named hnamed ⟨hd.1, hd.2.1⟩).symm.trans q2
  cases hnamed.symm.trans q3
  have hselP : selectMethod e.platform s.vm cellB.cls mk = .method mk := by rw [Launch.admits_selectMethod X.admits]; exact q4
  have hlen : As.length = methM.sig.parameters.length := by
    have h2 := hd.2.2
    rw [hsigM] at h2
    exact hAs.trans (Option.some.inj h2).symm
  obtain ⟨vm₁, X₁, hstep₁⟩ := X.invokevirtual hx ho (hts _ k3) hnamed hmethM hstM hkP hkPi ⟨hd.1, hd.2.1⟩ (a := b) (cell := cellB) (by rw [hT]; exact hcB)
    (fun z h => by rw [h] at hoB; cases hoB) hselP hmethM habM hkP hkPi (g := F0 m pc ls st0) rfl (argsL := As) (rest := rest) hlen hst (by rw [hbb]; exact hdg)
  obtain ⟨x, T', L, X', hL, hI, hF', st⟩ := xb_thr X₁ hM (g := F0 m pc ls rest) (ig := .invokevirtual index) (len := 3) rfl (hl.trans hml.symm) (by rw [hbb]; exact hdg) (lv_room hro) (X₁.named hnamed) (fun w hw => hpay w hw _ _ X₁.warmed) (word_at X₁.warmed (xb_gin _ k2).2 (hts _ k2))
    (by have := xb_pre.at F h isC hC hc hss (U := T.setVm vm₁) hT X₁.warmed; rw [← hT] at this; exact this) hRm hf.1 hf.2
  exact xb_out (rm := rm) hlk hno hS hF hA (U := T.setVm vm₁) hT X' hL hI hF' hw.1 hw.2 (hstep₁ _ fun acts => st acts)
end XBT
end
section
/-! Helpers: texts of the outside and of the world; a new exception. -/
theorem xb_ss0 {s : State} {H : Heap} {A : Nat → Prop} : ∀ U : State, U.heap = H → s.WarmedH U.vm → xb_SS [] A U U.heap := fun _ _ _ _ hq => absurd hq List.not_mem_nil
theorem xb_min {a b : Nat} (h : b ≤ a) (ha : a < 2 ^ 31) : (if nI b < nI a then nI b else nI a) = nI b := by
  by_cases e : b = a
  · subst e
    split <;> rfl
  · rw [if_pos ((nI_ltI (by omega) ha).mpr (by omega))]
section XBH
variable {p : Program} {l : Launch} {e : Env} {R : Room} {s : State} {m : MethodId} {args : Array Value} {below : List Frame} {meth : Method} {c : Code} {H : Heap} {locs : List Loc} {cells slots : Nat} {Q : State → Prop}
variable {cc : ByteArray} {nL pc : Nat} {own : String} {G : xb_EV} {ss : List (Nat × Nat × Nat × (Nat → Int32))} {A : Nat → Prop} {ls : Array Slot} {rest st0 : List Value} {ws wc wc0 wr : va_W}
theorem xb_ssg {ss' : List (Nat × Nat × Nat × (Nat → Int32))} (F : xb_F p s m args c cc nL own G ss A) (h : xb_W G A s ws H locs) (isC : List Nat) (hC : isC.map (fun i => ws[i]?) = wc.map some) (hin : ∀ q ∈ ss', q ∈ ss) : ∀ U : State, U.heap = H → s.WarmedH U.vm → xb_SS ss' (va_A wc H.size) U U.heap :=
  fun _ hU hW => F.2.2.2.2.go hin h.2.2 (va_free h.2.1 h.2.2 F.2.2.1 isC hC) hU hW
theorem xb_litF (F : xb_F p s m args c cc nL own G ss A) (i : Nat) (hi : i < xb_sN) : xb_SB (G.2.2.2.1 i, G.2.2.2.2 i, xb_sL.getD i 0, fun j => (xb_sB.getD i []).getD j 0) A s s.heap :=
  F.2.2.2.1.2.2.2.1.1 i hi
theorem xb_lit (F : xb_F p s m args c cc nL own G ss A) (h : xb_W G A s ws H locs) (i : Nat) (hi : i < xb_sN) : ∀ U : State, U.heap = H → s.WarmedH U.vm → xb_SS [(G.2.2.2.1 i, G.2.2.2.2 i, xb_sL.getD i 0, fun j => (xb_sB.getD i []).getD j 0)] (va_A [] H.size) U U.heap := by
  intro U hU hW q hq
  obtain rfl : q = _ := List.mem_singleton.mp hq
  exact (xb_litF F i hi).go h.2.2 (va_free (wc := []) h.2.1 h.2.2 F.2.2.1 [] rfl) hU hW
theorem xb_str {q : String × Nat × String × Nat} (F : xb_F p s m args c cc nL own G ss A) (j : Nat) (hj : xb_sR[j]? = some q) : vk_R q.1 q.2.1 q.2.2.1 (G.2.2.2.1 q.2.2.2) s := F.2.2.2.1.2.2.2.2.1 q (List.mem_of_getElem? hj)
/-- a field of an object of the world, as one of the outside -/
theorem xb_wOF {ci N a : Nat} {C ow nm ds : String} {T : u_T} {ty : Nat → FieldType} {fin : Bool} {fs : List Value} {v : Value} {B : Nat → Prop} (F : xb_F p s m args c cc nL own G ss A) (h : xb_W G A s ws H locs) (cf : xb_cf ci C T N ty) (q0 : Nat) (he : ws[q0]? = some (a, .inr (ci, fs))) (k : Nat) (hk : k < N) (hT : T k = (ow, nm, ds, fin)) (hv : fs[k]? = some v) (hB : a < H.size → ¬ B a) : va_OF ow nm ds v a B s H := by
  obtain ⟨r, h1, cell, q1, q2, q3, q4⟩ := h.1 q0 _ he
  have hr : r = (C, T, N) := Option.some.inj (h1.symm.trans cf.1)
  subst hr
  obtain ⟨hS, hfc, kC, hkC, hkind⟩ := F.2.1.1 ci _ cf.1
  obtain ⟨c9, kf, fi, f, hi, hsl⟩ := hS k hk
  have hst := (u_facts hfc hkC (u_lays F.1.2.2.2.2 cf.2.1 hk) hi).1
  have hi : s.fieldFound? (T k).1 (T k).2.1 (T k).2.2.1 = some (c9, kf, fi, f) := hi
  rw [hT] at hi
  refine ⟨c9, kf, fi, f, cell, hi, hst, q1, by rw [q3]; exact nofun, ?_, hB (Array.getElem?_eq_some_iff.mp q1).1⟩
  rw [hsl, q4 k hk]
  simp [vp_V, hv]
/-- a text that the world holds, as one of the outside of a callee to whom nothing is given -/
theorem xb_wstr {a d n : Nat} {f : Nat → Int32} {v2 v3 : Value} (F : xb_F p s m args c cc nL own G ss A) (h : xb_W G A s ws H locs) (q0 q1 : Nat) (he : ws[q0]? = some (a, .inr (xb_iS, [.ref d, .int 0, v2, v3]))) (he1 : ws[q1]? = some (d, .inl (G.2.1 4, n, .inl f))) (hn : n < 2 ^ 31) : ∀ U : State, U.heap = H → s.WarmedH U.vm → xb_SS [(a, d, n, f)] (va_A [] H.size) U U.heap := by
  intro U hU hW q hq
  obtain rfl : q = _ := List.mem_singleton.mp hq
  have hB : ∀ x : Nat, x < H.size → ¬ va_A [] H.size x := by
    intro x hx z
    rcases z with ⟨k, e9, z⟩ | z
    · cases z
    · omega
  rw [hU]
  obtain ⟨cell, c1, c2, c3⟩ := va_recv F.2.1 h.1 cf_S.1 he
  have hd : H[d]? = some (arrV (G.2.1 4) n (fun j => .int (f j))) := h.1 q1 _ he1
  refine ⟨va_O.moved hW.alike ⟨cell, c1, c2, c3, hB _ (Array.getElem?_eq_some_iff.mp c1).1⟩, va_OF.moved hW.alike (xb_wOF F h cf_S q0 he 1 (by decide) rfl rfl (hB _)), va_OF.moved hW.alike (xb_wOF F h cf_S q0 he 0 (by decide) rfl rfl (hB _)), va_T.moved hW.alike ⟨_, hd, (F.2.1.2 4 (G.2.1 4, .byte) rfl).1 n _, nofun, Nat.le_of_eq (arrV_size _ _ _).symm, by first | (rw [arrV_size]; done) | (rw [arrV_size]; rfl), fun j hj => arrV_read _ _ hj, hB _ (Array.getElem?_eq_some_iff.mp hd).1⟩⟩
end XBH
/-- where no old slot was written, every old cell is as it was -/
theorem xb_same {s U : State} {k n : Nat} (h : s.sameButNew ({ U with vm := s.vm } : State) [] k n) : s.heap.size ≤ U.heap.size ∧ ∀ q : Nat, q < s.heap.size → U.heap[q]? = s.heap[q]? := by
  obtain ⟨-, h2, -, -, -, h6⟩ := h
  refine ⟨h2, fun q hq => ?_⟩
  have hc : s.heap[q]? = some s.heap[q] := Array.getElem?_eq_getElem hq
  obtain ⟨c', e1, e2, e3, e4⟩ := h6 q _ hc
  have e1 : U.heap[q]? = some c' := e1
  have hs : c'.slots = (s.heap[q]).slots := Array.ext_getElem? (fun i => e4 i List.not_mem_nil)
  rw [hs] at e2
  rw [e1, hc, e2]
section XBN
variable {p : Program} {l : Launch} {e : Env} {R : Room} {s : State} {m : MethodId} {args : Array Value} {below : List Frame} {meth : Method} {c : Code} {H : Heap} {locs : List Loc} {cells slots : Nat} {Q : State → Prop}
variable {cc : ByteArray} {nL pc : Nat} {own : String} {G : xb_EV} {ss : List (Nat × Nat × Nat × (Nat → Int32))} {A : Nat → Prop} {ls : Array Slot} {rest st0 : List Value} {ws wc wc0 wr : va_W}
/-- throw new IllegalArgumentException(), in a method that has written nothing -/
theorem xb_thrownew {rm0 : Room} {index ic : Nat} (F : xb_F p s m args c cc nL own G ss A) (hst : e.platform.stackTraces = false) (hlk : meth.locks = false) (hno : c.exceptionTable.isEmpty = true) (h : xb_W G A s ws s.heap []) (k1 : Cond.classLink own index "java/lang/IllegalArgumentException" ∈ xb_g) (k2 : Cond.instantiable "java/lang/IllegalArgumentException" 6 ∈ xb_g) (k3 : Cond.initialized "java/lang/IllegalArgumentException" ∈ xb_g)
    (hat : ∀ a ∈ Bundle.ownAtoms0 own ic "java/lang/IllegalArgumentException" ["java/lang/RuntimeException", "java/lang/Exception"], a.before args s = true) (hl : ls.size = nL) (hc : 1 ≤ R.cells ∧ 6 ≤ R.slots) (hc0 : 1 ≤ rm0.cells ∧ 6 ≤ rm0.slots) (hRf : 5 < R.frames) (hRl : 90 ≤ R.locals)
    (d0 : decode cc pc = .ok (.new index, 3)) (d3 : decode cc (pc + 3) = .ok (.dup, 1)) (d4 : decode cc (pc + 4) = .ok (.invokespecial ic, 3)) (d7 : decode cc (pc + 7) = .ok (.athrow, 1)) :
    W p l e R s m args below meth c s.heap [] 0 0 (xb_MT below wc0 args s rm0) (F0 m pc ls []) := by
  obtain ⟨⟨hx, hb, hml, hown, hts⟩, -⟩ := id F
  have hnil : c.exceptionTable.toList = [] := by
    have h0 : c.exceptionTable.size = 0 := by simpa [Array.isEmpty] using hno
    exact List.eq_nil_of_length_eq_zero (by simpa using h0)
  refine W.newc hx hb hown (hts _ k1) (hts _ k2) (hts _ k3) (g := F0 m pc ls []) rfl d0 (by omega) (by omega) (fun cC kC hf hk hkind hsz => ?_)
  refine W.eq (g2 := F0 m (pc + 3) ls [.ref s.heap.size]) rfl ?_
  refine lv_dup hx hb d3 rfl ?_
  intro T hT X
  have hcell : T.heap[s.heap.size]? = some (freshCell cC kC) := by
    rw [hT]
    exact Array.getElem?_push_size
  obtain ⟨U, st, hrun, hend, hW, hsame, ce, hce, hown2⟩ := X.ctorThrow0 hx hst hown (cls := "java/lang/IllegalArgumentException") (names := ["java/lang/RuntimeException", "java/lang/Exception"]) (ic := ic) (by decide) (by decide) hat (fun x hx => by cases hx) hf hk hcell (Nat.le_refl _)
    (g := F0 m (pc + 3 + 1) ls [.ref s.heap.size, .ref s.heap.size]) rfl (hl.trans hml.symm) rfl rfl (rest := []) rfl (by rw [hb]; exact d4) (by rw [hb]; exact d7) (fun x hx => by rw [hnil] at hx; cases hx) (by simpa using hRf) (by simp [Value.category]; omega) hlk
  obtain ⟨z1, z2⟩ := xb_same hsame
  exact ⟨U, st, .threw s.heap.size, hrun, hend, s.heap.size, rfl, ⟨ce, hce, by rw [hown2.vm]; rfl, by rw [hW.alike.findClass]; exact hown2.cls⟩, hW, ⟨[], hsame.mono (by simpa using hc0.1) (by simpa using hc0.2), fun q hq => by cases hq⟩, z1, fun q a _ => z2 q a⟩
end XBN
end
section
/-! The atoms of 'throw new IllegalArgumentException()' in Tokens. -/
def xt_ex : List Cond := [.castable "java/lang/IllegalArgumentException" "java/lang/IllegalArgumentException", .declares (Bundle.init0 "java/lang/RuntimeException"), .declares (Bundle.init0 "java/lang/Exception"), .declares (Bundle.init0 "java/lang/Throwable"), .isRef (.static "java/lang/Throwable" "UNASSIGNED_STACK" "[Ljava/lang/StackTraceElement;"), .isRef (.static "java/lang/Throwable" "SUPPRESSED_SENTINEL" "Ljava/util/List;"), .laysStatic "java/lang/Throwable" "UNASSIGNED_STACK" "[Ljava/lang/StackTraceElement;", .laysStatic "java/lang/Throwable" "SUPPRESSED_SENTINEL" "Ljava/util/List;"]
set_option maxRecDepth 100000 in
theorem xt_all : ∀ a ∈ Bundle.ownAtoms0 "TypeFinder$Tokens" 76 "java/lang/IllegalArgumentException" ["java/lang/RuntimeException", "java/lang/Exception"], a ∈ xb_g ∨ a ∈ xt_ex := by decide +kernel
theorem xb_at_Tokens {p : Program} {s : State} {m : MethodId} {args : Array Value} {c : Code} {cc : ByteArray} {nL : Nat} {own : String} {G : xb_EV} {ss : List (Nat × Nat × Nat × (Nat → Int32))} {A : Nat → Prop} (F : xb_F p s m args c cc nL own G ss A) : ∀ a ∈ Bundle.ownAtoms0 "TypeFinder$Tokens" 76 "java/lang/IllegalArgumentException" ["java/lang/RuntimeException", "java/lang/Exception"], a.before args s = true := by
  intro a ha
  rcases xt_all a ha with h | h
  · exact F.1.2.2.2.2 a h
  · obtain ⟨-, -, -, -, -, -, h7, -, h9, h10⟩ := F.2.2.2.1
    simp only [xt_ex, List.mem_cons, List.not_mem_nil, or_false] at h
    rcases h with rfl | rfl | rfl | rfl | rfl | rfl | rfl | rfl
    · exact va_any rfl (h7 ("java/lang/IllegalArgumentException", "java/lang/IllegalArgumentException") (by decide))
    · exact va_any rfl (h9 ⟨"java/lang/RuntimeException", "<init>", "()V"⟩ (by decide))
    · exact va_any rfl (h9 ⟨"java/lang/Exception", "<init>", "()V"⟩ (by decide))
    · exact va_any rfl (h9 ⟨"java/lang/Throwable", "<init>", "()V"⟩ (by decide))
    · exact (h10 ("UNASSIGNED_STACK", "[Ljava/lang/StackTraceElement;") (by decide)).isref
    · exact (h10 ("SUPPRESSED_SENTINEL", "Ljava/util/List;") (by decide)).isref
    · exact (h10 ("UNASSIGNED_STACK", "[Ljava/lang/StackTraceElement;") (by decide)).lays
    · exact (h10 ("SUPPRESSED_SENTINEL", "Ljava/util/List;") (by decide)).lays
end
