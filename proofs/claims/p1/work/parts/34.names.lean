abbrev b_StringLatin1_canEncode : ByteArray := prog_31_method_4_code
def y_StringLatin1_canEncode : MethodName := ⟨"java/lang/StringLatin1", "canEncode", "(I)Z"⟩
abbrev b_StringLatin1_indexOfChar : ByteArray := prog_31_method_23_code
def y_StringLatin1_indexOfChar : MethodName := ⟨"java/lang/StringLatin1", "indexOfChar", "([BIII)I"⟩
abbrev b_StringLatin1_indexOf : ByteArray := prog_31_method_22_code
def y_StringLatin1_indexOf : MethodName := ⟨"java/lang/StringLatin1", "indexOf", "([BIII)I"⟩
abbrev b_String_indexOf : ByteArray := prog_28_method_80_code
def y_String_indexOf : MethodName := ⟨"java/lang/String", "indexOf", "(II)I"⟩
abbrev b_String_indexOf2 : ByteArray := prog_28_method_79_code
def y_String_indexOf2 : MethodName := ⟨"java/lang/String", "indexOf", "(I)I"⟩
abbrev b_TypeFinder_Parser_setLevel : ByteArray := prog_8_method_2_code
def y_TypeFinder_Parser_setLevel : MethodName := ⟨"TypeFinder$Parser", "setLevel", "(CIZ)Z"⟩
abbrev b_TypeFinder_ifx : ByteArray := prog_1_method_7_code
def y_TypeFinder_ifx : MethodName := ⟨"TypeFinder", "infix", "(CIZ)Z"⟩
abbrev b_TypeFinderModel_operatorOf : ByteArray := prog_14_method_5_code
def y_TypeFinderModel_operatorOf : MethodName := ⟨"TypeFinderModel", "operatorOf", "(I)I"⟩
abbrev b_TypeFinderModel_ifx : ByteArray := prog_14_method_105_code
def y_TypeFinderModel_ifx : MethodName := ⟨"TypeFinderModel", "infix", "(CIZ)Z"⟩
set_option maxRecDepth 100000 in
theorem k_665 : Cond.code y_StringLatin1_canEncode b_StringLatin1_canEncode 1 (some .boolean) ∈ xb_g := xb_m 982 (by rfl) (by decide)
theorem k_666 : Cond.methodLink "java/lang/StringLatin1" 88 y_StringLatin1_canEncode ∈ xb_g := xb_m 980 (by decide +kernel) (by decide)
theorem k_667 : Cond.static y_StringLatin1_canEncode ∈ xb_g := xb_m 981 (by decide +kernel) (by decide)
theorem k_668 : Cond.methodLink "java/lang/StringLatin1" 92 Lib.Math.max.name ∈ xb_g := xb_m 983 (by decide +kernel) (by decide)
theorem k_669 : Cond.methodLink "java/lang/StringLatin1" 38 Lib.Math.min.name ∈ xb_g := xb_m 984 (by decide +kernel) (by decide)
set_option maxRecDepth 100000 in
theorem k_670 : Cond.code y_StringLatin1_indexOfChar b_StringLatin1_indexOfChar 6 (some .int) ∈ xb_g := xb_m 987 (by rfl) (by decide)
theorem k_671 : Cond.methodLink "java/lang/StringLatin1" 95 y_StringLatin1_indexOfChar ∈ xb_g := xb_m 985 (by decide +kernel) (by decide)
theorem k_672 : Cond.static y_StringLatin1_indexOfChar ∈ xb_g := xb_m 986 (by decide +kernel) (by decide)
set_option maxRecDepth 100000 in
theorem k_673 : Cond.code y_StringLatin1_indexOf b_StringLatin1_indexOf 4 (some .int) ∈ xb_g := xb_m 979 (by rfl) (by decide)
theorem k_674 : Cond.methodLink "java/lang/String" 637 y_StringLatin1_indexOf ∈ xb_g := xb_m 977 (by decide +kernel) (by decide)
theorem k_675 : Cond.static y_StringLatin1_indexOf ∈ xb_g := xb_m 978 (by decide +kernel) (by decide)
set_option maxRecDepth 100000 in
theorem k_676 : Cond.code y_String_indexOf b_String_indexOf 3 (some .int) ∈ xb_g := xb_m 976 (by rfl) (by decide)
theorem k_677 : Cond.methodLink "java/lang/String" 633 y_String_indexOf ∈ xb_g := xb_m 973 (by decide +kernel) (by decide)
theorem k_678 : Cond.instanceMethod y_String_indexOf ∈ xb_g := xb_m 974 (by decide +kernel) (by decide)
theorem k_679 : Cond.selects "java/lang/String" y_String_indexOf y_String_indexOf ∈ xb_g := xb_m 975 (by decide +kernel) (by decide)
set_option maxRecDepth 100000 in
theorem k_680 : Cond.code y_String_indexOf2 b_String_indexOf2 2 (some .int) ∈ xb_g := xb_m 972 (by rfl) (by decide)
theorem k_681 : Cond.methodLink "TypeFinder$Parser" 37 y_String_indexOf2 ∈ xb_g := xb_m 969 (by decide +kernel) (by decide)
theorem k_682 : Cond.instanceMethod y_String_indexOf2 ∈ xb_g := xb_m 970 (by decide +kernel) (by decide)
theorem k_683 : Cond.selects "java/lang/String" y_String_indexOf2 y_String_indexOf2 ∈ xb_g := xb_m 971 (by decide +kernel) (by decide)
set_option maxRecDepth 100000 in
theorem k_684 : Cond.code y_TypeFinder_Parser_setLevel b_TypeFinder_Parser_setLevel 5 (some .boolean) ∈ xb_g := xb_m 967 (by rfl) (by decide)
theorem k_685 : Cond.methodLink "TypeFinder" 109 y_TypeFinder_Parser_setLevel ∈ xb_g := xb_m 964 (by decide +kernel) (by decide)
theorem k_686 : Cond.instanceMethod y_TypeFinder_Parser_setLevel ∈ xb_g := xb_m 965 (by decide +kernel) (by decide)
theorem k_687 : Cond.selects "TypeFinder$Parser" y_TypeFinder_Parser_setLevel y_TypeFinder_Parser_setLevel ∈ xb_g := xb_m 966 (by decide +kernel) (by decide)
set_option maxRecDepth 100000 in
theorem k_688 : Cond.code y_TypeFinderModel_operatorOf b_TypeFinderModel_operatorOf 1 (some .int) ∈ xb_g := xb_m 1901 (by rfl) (by decide)
theorem k_689 : Cond.methodLink "TypeFinderModel" 250 y_TypeFinderModel_operatorOf ∈ xb_g := xb_m 1899 (by decide +kernel) (by decide)
theorem k_690 : Cond.static y_TypeFinderModel_operatorOf ∈ xb_g := xb_m 1900 (by decide +kernel) (by decide)
theorem hd_StringLatin1_canEncode : y_StringLatin1_canEncode.cls ≠ "java/lang/invoke/MethodHandle" ∧ y_StringLatin1_canEncode.cls ≠ "java/lang/invoke/VarHandle" ∧ (parseMethodDescriptor y_StringLatin1_canEncode.desc).map (fun d => d.parameters.length) = some 1 := by decide +kernel
theorem hd_StringLatin1_indexOfChar : y_StringLatin1_indexOfChar.cls ≠ "java/lang/invoke/MethodHandle" ∧ y_StringLatin1_indexOfChar.cls ≠ "java/lang/invoke/VarHandle" ∧ (parseMethodDescriptor y_StringLatin1_indexOfChar.desc).map (fun d => d.parameters.length) = some 4 := by decide +kernel
theorem hd_StringLatin1_indexOf : y_StringLatin1_indexOf.cls ≠ "java/lang/invoke/MethodHandle" ∧ y_StringLatin1_indexOf.cls ≠ "java/lang/invoke/VarHandle" ∧ (parseMethodDescriptor y_StringLatin1_indexOf.desc).map (fun d => d.parameters.length) = some 4 := by decide +kernel
theorem hd_String_indexOf : y_String_indexOf.cls ≠ "java/lang/invoke/MethodHandle" ∧ y_String_indexOf.cls ≠ "java/lang/invoke/VarHandle" ∧ (parseMethodDescriptor y_String_indexOf.desc).map (fun d => d.parameters.length) = some 2 := by decide +kernel
theorem hd_String_indexOf2 : y_String_indexOf2.cls ≠ "java/lang/invoke/MethodHandle" ∧ y_String_indexOf2.cls ≠ "java/lang/invoke/VarHandle" ∧ (parseMethodDescriptor y_String_indexOf2.desc).map (fun d => d.parameters.length) = some 1 := by decide +kernel
theorem hd_TypeFinder_Parser_setLevel : y_TypeFinder_Parser_setLevel.cls ≠ "java/lang/invoke/MethodHandle" ∧ y_TypeFinder_Parser_setLevel.cls ≠ "java/lang/invoke/VarHandle" ∧ (parseMethodDescriptor y_TypeFinder_Parser_setLevel.desc).map (fun d => d.parameters.length) = some 3 := by decide +kernel
theorem hd_TypeFinder_ifx : y_TypeFinder_ifx.cls ≠ "java/lang/invoke/MethodHandle" ∧ y_TypeFinder_ifx.cls ≠ "java/lang/invoke/VarHandle" ∧ (parseMethodDescriptor y_TypeFinder_ifx.desc).map (fun d => d.parameters.length) = some 3 := by decide +kernel
theorem hd_TypeFinderModel_operatorOf : y_TypeFinderModel_operatorOf.cls ≠ "java/lang/invoke/MethodHandle" ∧ y_TypeFinderModel_operatorOf.cls ≠ "java/lang/invoke/VarHandle" ∧ (parseMethodDescriptor y_TypeFinderModel_operatorOf.desc).map (fun d => d.parameters.length) = some 1 := by decide +kernel
theorem hd_TypeFinderModel_ifx : y_TypeFinderModel_ifx.cls ≠ "java/lang/invoke/MethodHandle" ∧ y_TypeFinderModel_ifx.cls ≠ "java/lang/invoke/VarHandle" ∧ (parseMethodDescriptor y_TypeFinderModel_ifx.desc).map (fun d => d.parameters.length) = some 3 := by decide +kernel
