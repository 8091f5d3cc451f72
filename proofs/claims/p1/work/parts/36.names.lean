abbrev b_TypeFinder_byteOf : ByteArray := prog_1_method_10_code
def y_TypeFinder_byteOf : MethodName := ⟨"TypeFinder", "byteOf", "(JI)I"⟩
abbrev b_TypeFinder_type : ByteArray := prog_1_method_2_code
def y_TypeFinder_type : MethodName := ⟨"TypeFinder", "type", "(J)Z"⟩
abbrev b_TypeFinderModel_type : ByteArray := prog_14_method_16_code
def y_TypeFinderModel_type : MethodName := ⟨"TypeFinderModel", "type", "(J)Z"⟩
set_option maxRecDepth 100000 in
theorem k_691 : Cond.code y_TypeFinder_byteOf b_TypeFinder_byteOf 3 (some .int) ∈ xb_g := xb_m 798 (by rfl) (by decide)
theorem k_692 : Cond.methodLink "TypeFinder" 43 y_TypeFinder_byteOf ∈ xb_g := xb_m 796 (by decide +kernel) (by decide)
theorem k_693 : Cond.static y_TypeFinder_byteOf ∈ xb_g := xb_m 797 (by decide +kernel) (by decide)
theorem k_694 : Cond.constantLong "TypeFinderModel" 259 (32) ∈ xb_g := xb_m 1847 (by decide +kernel) (by decide)
theorem k_695 : Cond.constantLong "TypeFinderModel" 261 (126) ∈ xb_g := xb_m 1848 (by decide +kernel) (by decide)
theorem hd_TypeFinder_byteOf : y_TypeFinder_byteOf.cls ≠ "java/lang/invoke/MethodHandle" ∧ y_TypeFinder_byteOf.cls ≠ "java/lang/invoke/VarHandle" ∧ (parseMethodDescriptor y_TypeFinder_byteOf.desc).map (fun d => d.parameters.length) = some 2 := by decide +kernel
theorem hd_TypeFinder_type : y_TypeFinder_type.cls ≠ "java/lang/invoke/MethodHandle" ∧ y_TypeFinder_type.cls ≠ "java/lang/invoke/VarHandle" ∧ (parseMethodDescriptor y_TypeFinder_type.desc).map (fun d => d.parameters.length) = some 1 := by decide +kernel
theorem hd_TypeFinderModel_type : y_TypeFinderModel_type.cls ≠ "java/lang/invoke/MethodHandle" ∧ y_TypeFinderModel_type.cls ≠ "java/lang/invoke/VarHandle" ∧ (parseMethodDescriptor y_TypeFinderModel_type.desc).map (fun d => d.parameters.length) = some 1 := by decide +kernel
