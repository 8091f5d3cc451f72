abbrev b_TypeFinderLaw_declare : ByteArray := method_3_code
def y_TypeFinderLaw_declare : MethodName := ⟨"TypeFinderLaw", "declare", "(LTypeFinder;[J)I"⟩
abbrev b_TypeFinderLaw_ask : ByteArray := method_4_code
def y_TypeFinderLaw_ask : MethodName := ⟨"TypeFinderLaw", "ask", "(LTypeFinder;[J)I"⟩
set_option maxRecDepth 100000 in
theorem k_696 : Cond.code y_TypeFinder_declare b_TypeFinder_declare 3 (some .int) ∈ xb_g := xb_m 1039 (by rfl) (by decide)
theorem k_697 : Cond.methodLink "TypeFinderLaw" 7 y_TypeFinder_declare ∈ xb_g := xb_m 1036 (by decide +kernel) (by decide)
theorem k_698 : Cond.instanceMethod y_TypeFinder_declare ∈ xb_g := xb_m 1037 (by decide +kernel) (by decide)
theorem k_699 : Cond.selects "TypeFinder" y_TypeFinder_declare y_TypeFinder_declare ∈ xb_g := xb_m 1038 (by decide +kernel) (by decide)
theorem k_700 : Cond.classLink "TypeFinderLaw" 13 "java/lang/IllegalArgumentException" ∈ xb_g := xb_m 1032 (by decide +kernel) (by decide)
set_option maxRecDepth 100000 in
theorem k_701 : Cond.codeWith y_TypeFinderLaw_declare b_TypeFinderLaw_declare 3 (some .int) [(0, 8, 11, 13), (0, 8, 14, 15), (0, 8, 17, 17), (0, 8, 20, 19)] ∈ xb_g := xb_m 1031 (by rfl) (by decide)
theorem k_702 : Cond.static y_TypeFinderLaw_declare ∈ xb_g := xb_m 1030 (by decide +kernel) (by decide)
theorem k_703 : Cond.initialized "TypeFinderLaw" ∈ xb_g := xb_m 0 (by decide +kernel) (by decide)
set_option maxRecDepth 100000 in
theorem k_704 : Cond.code y_TypeFinder_ask b_TypeFinder_ask 3 (some .int) ∈ xb_g := xb_m 1569 (by rfl) (by decide)
theorem k_705 : Cond.methodLink "TypeFinderLaw" 21 y_TypeFinder_ask ∈ xb_g := xb_m 1566 (by decide +kernel) (by decide)
theorem k_706 : Cond.instanceMethod y_TypeFinder_ask ∈ xb_g := xb_m 1567 (by decide +kernel) (by decide)
theorem k_707 : Cond.selects "TypeFinder" y_TypeFinder_ask y_TypeFinder_ask ∈ xb_g := xb_m 1568 (by decide +kernel) (by decide)
set_option maxRecDepth 100000 in
theorem k_708 : Cond.codeWith y_TypeFinderLaw_ask b_TypeFinderLaw_ask 3 (some .int) [(0, 8, 11, 13), (0, 8, 14, 15), (0, 8, 17, 17)] ∈ xb_g := xb_m 1565 (by rfl) (by decide)
theorem k_709 : Cond.static y_TypeFinderLaw_ask ∈ xb_g := xb_m 1564 (by decide +kernel) (by decide)
theorem hd_TypeFinderLaw_declare : y_TypeFinderLaw_declare.cls ≠ "java/lang/invoke/MethodHandle" ∧ y_TypeFinderLaw_declare.cls ≠ "java/lang/invoke/VarHandle" ∧ (parseMethodDescriptor y_TypeFinderLaw_declare.desc).map (fun d => d.parameters.length) = some 2 := by decide +kernel
theorem hd_TypeFinderLaw_ask : y_TypeFinderLaw_ask.cls ≠ "java/lang/invoke/MethodHandle" ∧ y_TypeFinderLaw_ask.cls ≠ "java/lang/invoke/VarHandle" ∧ (parseMethodDescriptor y_TypeFinderLaw_ask.desc).map (fun d => d.parameters.length) = some 2 := by decide +kernel
