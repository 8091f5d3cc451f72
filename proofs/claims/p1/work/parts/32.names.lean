abbrev b_TypeFinderModel_scheme : ByteArray := prog_14_method_103_code
def y_TypeFinderModel_scheme : MethodName := ⟨"TypeFinderModel", "scheme", "(I)I"⟩
abbrev b_TypeFinderModel_written : ByteArray := prog_14_method_104_code
def y_TypeFinderModel_written : MethodName := ⟨"TypeFinderModel", "written", "(I)I"⟩
abbrev b_TypeFinderModel_matches : ByteArray := prog_14_method_106_code
def y_TypeFinderModel_matches : MethodName := ⟨"TypeFinderModel", "matches", "(I)I"⟩
abbrev b_TypeFinderModel_count : ByteArray := prog_14_method_107_code
def y_TypeFinderModel_count : MethodName := ⟨"TypeFinderModel", "count", "(I)I"⟩
abbrev b_TypeFinder_Known_declaredName : ByteArray := prog_5_method_3_code
def y_TypeFinder_Known_declaredName : MethodName := ⟨"TypeFinder$Known", "declaredName", "(I)LTypeFinder$Name;"⟩
abbrev b_TypeFinder_Known_declaredNames : ByteArray := prog_5_method_2_code
def y_TypeFinder_Known_declaredNames : MethodName := ⟨"TypeFinder$Known", "declaredNames", "()I"⟩
abbrev b_TypeFinder_scheme : ByteArray := prog_1_method_5_code
def y_TypeFinder_scheme : MethodName := ⟨"TypeFinder", "scheme", "(I)I"⟩
abbrev b_AbstractStringBuilder_length : ByteArray := prog_16_method_6_code
def y_AbstractStringBuilder_length : MethodName := ⟨"java/lang/AbstractStringBuilder", "length", "()I"⟩
abbrev b_StringBuilder_length : ByteArray := prog_29_method_93_code
def y_StringBuilder_length : MethodName := ⟨"java/lang/StringBuilder", "length", "()I"⟩
abbrev b_TypeFinder_Writer_characterAt : ByteArray := prog_12_method_3_code
def y_TypeFinder_Writer_characterAt : MethodName := ⟨"TypeFinder$Writer", "characterAt", "(I)I"⟩
abbrev b_TypeFinder_written : ByteArray := prog_1_method_6_code
def y_TypeFinder_written : MethodName := ⟨"TypeFinder", "written", "(I)I"⟩
abbrev b_TypeFinder_matches : ByteArray := prog_1_method_8_code
def y_TypeFinder_matches : MethodName := ⟨"TypeFinder", "matches", "(I)I"⟩
abbrev b_TypeFinder_count : ByteArray := prog_1_method_9_code
def y_TypeFinder_count : MethodName := ⟨"TypeFinder", "count", "(I)I"⟩
abbrev b_Objects_checkIndex : ByteArray := prog_42_method_17_code
def y_Objects_checkIndex : MethodName := ⟨"java/util/Objects", "checkIndex", "(II)I"⟩
abbrev b_ArrayList_elementData : ByteArray := prog_38_method_18_code
def y_ArrayList_elementData : MethodName := ⟨"java/util/ArrayList", "elementData", "(I)Ljava/lang/Object;"⟩
abbrev b_ArrayList_get : ByteArray := prog_38_method_20_code
def y_ArrayList_get : MethodName := ⟨"java/util/ArrayList", "get", "(I)Ljava/lang/Object;"⟩
abbrev b_TypeFinder_Known_allowance : ByteArray := prog_5_method_4_code
def y_TypeFinder_Known_allowance : MethodName := ⟨"TypeFinder$Known", "allowance", "(I)I"⟩
theorem k_618 : Cond.fieldLink "TypeFinderModel" 516 "TypeFinderModel" "shown" "I" ∈ xb_g := xb_m 1665 (by decide +kernel) (by decide)
set_option maxRecDepth 100000 in
theorem k_619 : Cond.code y_TypeFinder_Known_declaredNames b_TypeFinder_Known_declaredNames 1 (some .int) ∈ xb_g := xb_m 810 (by rfl) (by decide)
theorem k_620 : Cond.methodLink "TypeFinder$Known" 105 y_TypeFinder_Known_declaredNames ∈ xb_g := xb_m 807 (by decide +kernel) (by decide)
theorem k_621 : Cond.instanceMethod y_TypeFinder_Known_declaredNames ∈ xb_g := xb_m 808 (by decide +kernel) (by decide)
theorem k_622 : Cond.selects "TypeFinder$Known" y_TypeFinder_Known_declaredNames y_TypeFinder_Known_declaredNames ∈ xb_g := xb_m 809 (by decide +kernel) (by decide)
set_option maxRecDepth 100000 in
theorem k_623 : Cond.code y_TypeFinder_Known_declaredName b_TypeFinder_Known_declaredName 2 (some (.object "TypeFinder$Name")) ∈ xb_g := xb_m 806 (by rfl) (by decide)
theorem k_624 : Cond.methodLink "TypeFinder" 96 y_TypeFinder_Known_declaredName ∈ xb_g := xb_m 803 (by decide +kernel) (by decide)
theorem k_625 : Cond.instanceMethod y_TypeFinder_Known_declaredName ∈ xb_g := xb_m 804 (by decide +kernel) (by decide)
theorem k_626 : Cond.selects "TypeFinder$Known" y_TypeFinder_Known_declaredName y_TypeFinder_Known_declaredName ∈ xb_g := xb_m 805 (by decide +kernel) (by decide)
theorem k_627 : Cond.fieldLink "java/lang/AbstractStringBuilder" 79 "java/lang/AbstractStringBuilder" "count" "I" ∈ xb_g := xb_m 199 (by decide +kernel) (by decide)
set_option maxRecDepth 100000 in
theorem k_628 : Cond.code y_AbstractStringBuilder_length b_AbstractStringBuilder_length 1 (some .int) ∈ xb_g := xb_m 359 (by rfl) (by decide)
theorem k_629 : Cond.methodLink "java/lang/StringBuilder" 343 y_AbstractStringBuilder_length ∈ xb_g := xb_m 358 (by decide +kernel) (by decide)
theorem k_630 : Cond.instanceMethod y_AbstractStringBuilder_length ∈ xb_g := xb_m 353 (by decide +kernel) (by decide)
theorem k_631 : Cond.sameMethod "java/lang/AbstractStringBuilder" "java/lang/AbstractStringBuilder" "length" "()I" ∈ xb_g := xb_m 354 (by decide +kernel) (by decide)
theorem k_632 : Cond.superclass "java/lang/StringBuilder" "java/lang/AbstractStringBuilder" ∈ xb_g := xb_m 208 (by decide +kernel) (by decide)
set_option maxRecDepth 100000 in
theorem k_633 : Cond.code y_StringBuilder_length b_StringBuilder_length 1 (some .int) ∈ xb_g := xb_m 357 (by rfl) (by decide)
theorem k_634 : Cond.methodLink "TypeFinder$Writer" 36 y_StringBuilder_length ∈ xb_g := xb_m 941 (by decide +kernel) (by decide)
theorem k_635 : Cond.instanceMethod y_StringBuilder_length ∈ xb_g := xb_m 356 (by decide +kernel) (by decide)
theorem k_636 : Cond.selects "java/lang/StringBuilder" y_StringBuilder_length y_StringBuilder_length ∈ xb_g := xb_m 2273 (by decide +kernel) (by decide)
set_option maxRecDepth 100000 in
theorem k_637 : Cond.code y_TypeFinder_Writer_characterAt b_TypeFinder_Writer_characterAt 2 (some .int) ∈ xb_g := xb_m 949 (by rfl) (by decide)
theorem k_638 : Cond.methodLink "TypeFinder" 105 y_TypeFinder_Writer_characterAt ∈ xb_g := xb_m 946 (by decide +kernel) (by decide)
theorem k_639 : Cond.instanceMethod y_TypeFinder_Writer_characterAt ∈ xb_g := xb_m 947 (by decide +kernel) (by decide)
theorem k_640 : Cond.selects "TypeFinder$Writer" y_TypeFinder_Writer_characterAt y_TypeFinder_Writer_characterAt ∈ xb_g := xb_m 948 (by decide +kernel) (by decide)
theorem k_641 : Cond.fieldLink "TypeFinder" 113 "TypeFinder" "openCases" "I" ∈ xb_g := xb_m 771 (by decide +kernel) (by decide)
theorem k_642 : Cond.fieldLink "TypeFinder" 116 "TypeFinder" "idleAlternatives" "I" ∈ xb_g := xb_m 772 (by decide +kernel) (by decide)
theorem k_643 : Cond.methodLink "TypeFinder" 119 y_TypeFinder_Known_declaredNames ∈ xb_g := xb_m 1022 (by decide +kernel) (by decide)
theorem k_644 : Cond.fieldLink "TypeFinder" 122 "TypeFinder$Known" "dataTypes" "Ljava/util/ArrayList;" ∈ xb_g := xb_m 683 (by decide +kernel) (by decide)
theorem k_645 : Cond.methodLink "TypeFinder" 126 y_ArrayList_size ∈ xb_g := xb_m 1023 (by decide +kernel) (by decide)
theorem k_646 : Cond.methodLink "java/util/Objects" 105 y_Preconditions_checkIndex ∈ xb_g := xb_m 818 (by decide +kernel) (by decide)
set_option maxRecDepth 100000 in
theorem k_647 : Cond.code y_Objects_checkIndex b_Objects_checkIndex 2 (some .int) ∈ xb_g := xb_m 817 (by rfl) (by decide)
theorem k_648 : Cond.initialized "java/util/Objects" ∈ xb_g := xb_m 33 (by decide +kernel) (by decide)
theorem k_649 : Cond.methodLink "java/util/ArrayList" 118 y_Objects_checkIndex ∈ xb_g := xb_m 815 (by decide +kernel) (by decide)
theorem k_650 : Cond.static y_Objects_checkIndex ∈ xb_g := xb_m 816 (by decide +kernel) (by decide)
set_option maxRecDepth 100000 in
theorem k_651 : Cond.code y_ArrayList_elementData b_ArrayList_elementData 2 (some (.object "java/lang/Object")) ∈ xb_g := xb_m 822 (by rfl) (by decide)
theorem k_652 : Cond.methodLink "java/util/ArrayList" 123 y_ArrayList_elementData ∈ xb_g := xb_m 819 (by decide +kernel) (by decide)
theorem k_653 : Cond.instanceMethod y_ArrayList_elementData ∈ xb_g := xb_m 820 (by decide +kernel) (by decide)
theorem k_654 : Cond.selects "java/util/ArrayList" y_ArrayList_elementData y_ArrayList_elementData ∈ xb_g := xb_m 821 (by decide +kernel) (by decide)
set_option maxRecDepth 100000 in
theorem k_655 : Cond.code y_ArrayList_get b_ArrayList_get 2 (some (.object "java/lang/Object")) ∈ xb_g := xb_m 814 (by rfl) (by decide)
theorem k_656 : Cond.methodLink "TypeFinder$Known" 108 y_ArrayList_get ∈ xb_g := xb_m 811 (by decide +kernel) (by decide)
theorem k_657 : Cond.instanceMethod y_ArrayList_get ∈ xb_g := xb_m 812 (by decide +kernel) (by decide)
theorem k_658 : Cond.selects "java/util/ArrayList" y_ArrayList_get y_ArrayList_get ∈ xb_g := xb_m 813 (by decide +kernel) (by decide)
theorem k_659 : Cond.classLink "TypeFinder$Known" 39 "TypeFinder$DataType" ∈ xb_g := xb_m 1028 (by decide +kernel) (by decide)
theorem k_660 : Cond.fieldLink "TypeFinder$Known" 112 "TypeFinder$DataType" "allows" "Z" ∈ xb_g := xb_m 567 (by decide +kernel) (by decide)
set_option maxRecDepth 100000 in
theorem k_661 : Cond.code y_TypeFinder_Known_allowance b_TypeFinder_Known_allowance 2 (some .int) ∈ xb_g := xb_m 1027 (by rfl) (by decide)
theorem k_662 : Cond.methodLink "TypeFinder" 131 y_TypeFinder_Known_allowance ∈ xb_g := xb_m 1024 (by decide +kernel) (by decide)
theorem k_663 : Cond.instanceMethod y_TypeFinder_Known_allowance ∈ xb_g := xb_m 1025 (by decide +kernel) (by decide)
theorem k_664 : Cond.selects "TypeFinder$Known" y_TypeFinder_Known_allowance y_TypeFinder_Known_allowance ∈ xb_g := xb_m 1026 (by decide +kernel) (by decide)
theorem hd_TypeFinderModel_scheme : y_TypeFinderModel_scheme.cls ≠ "java/lang/invoke/MethodHandle" ∧ y_TypeFinderModel_scheme.cls ≠ "java/lang/invoke/VarHandle" ∧ (parseMethodDescriptor y_TypeFinderModel_scheme.desc).map (fun d => d.parameters.length) = some 1 := by decide +kernel
theorem hd_TypeFinderModel_written : y_TypeFinderModel_written.cls ≠ "java/lang/invoke/MethodHandle" ∧ y_TypeFinderModel_written.cls ≠ "java/lang/invoke/VarHandle" ∧ (parseMethodDescriptor y_TypeFinderModel_written.desc).map (fun d => d.parameters.length) = some 1 := by decide +kernel
theorem hd_TypeFinderModel_matches : y_TypeFinderModel_matches.cls ≠ "java/lang/invoke/MethodHandle" ∧ y_TypeFinderModel_matches.cls ≠ "java/lang/invoke/VarHandle" ∧ (parseMethodDescriptor y_TypeFinderModel_matches.desc).map (fun d => d.parameters.length) = some 1 := by decide +kernel
theorem hd_TypeFinderModel_count : y_TypeFinderModel_count.cls ≠ "java/lang/invoke/MethodHandle" ∧ y_TypeFinderModel_count.cls ≠ "java/lang/invoke/VarHandle" ∧ (parseMethodDescriptor y_TypeFinderModel_count.desc).map (fun d => d.parameters.length) = some 1 := by decide +kernel
theorem hd_TypeFinder_Known_declaredName : y_TypeFinder_Known_declaredName.cls ≠ "java/lang/invoke/MethodHandle" ∧ y_TypeFinder_Known_declaredName.cls ≠ "java/lang/invoke/VarHandle" ∧ (parseMethodDescriptor y_TypeFinder_Known_declaredName.desc).map (fun d => d.parameters.length) = some 1 := by decide +kernel
theorem hd_TypeFinder_Known_declaredNames : y_TypeFinder_Known_declaredNames.cls ≠ "java/lang/invoke/MethodHandle" ∧ y_TypeFinder_Known_declaredNames.cls ≠ "java/lang/invoke/VarHandle" ∧ (parseMethodDescriptor y_TypeFinder_Known_declaredNames.desc).map (fun d => d.parameters.length) = some 0 := by decide +kernel
theorem hd_TypeFinder_scheme : y_TypeFinder_scheme.cls ≠ "java/lang/invoke/MethodHandle" ∧ y_TypeFinder_scheme.cls ≠ "java/lang/invoke/VarHandle" ∧ (parseMethodDescriptor y_TypeFinder_scheme.desc).map (fun d => d.parameters.length) = some 1 := by decide +kernel
theorem hd_AbstractStringBuilder_length : y_AbstractStringBuilder_length.cls ≠ "java/lang/invoke/MethodHandle" ∧ y_AbstractStringBuilder_length.cls ≠ "java/lang/invoke/VarHandle" ∧ (parseMethodDescriptor y_AbstractStringBuilder_length.desc).map (fun d => d.parameters.length) = some 0 := by decide +kernel
theorem hd_StringBuilder_length : y_StringBuilder_length.cls ≠ "java/lang/invoke/MethodHandle" ∧ y_StringBuilder_length.cls ≠ "java/lang/invoke/VarHandle" ∧ (parseMethodDescriptor y_StringBuilder_length.desc).map (fun d => d.parameters.length) = some 0 := by decide +kernel
theorem hd_TypeFinder_Writer_characterAt : y_TypeFinder_Writer_characterAt.cls ≠ "java/lang/invoke/MethodHandle" ∧ y_TypeFinder_Writer_characterAt.cls ≠ "java/lang/invoke/VarHandle" ∧ (parseMethodDescriptor y_TypeFinder_Writer_characterAt.desc).map (fun d => d.parameters.length) = some 1 := by decide +kernel
theorem hd_TypeFinder_written : y_TypeFinder_written.cls ≠ "java/lang/invoke/MethodHandle" ∧ y_TypeFinder_written.cls ≠ "java/lang/invoke/VarHandle" ∧ (parseMethodDescriptor y_TypeFinder_written.desc).map (fun d => d.parameters.length) = some 1 := by decide +kernel
theorem hd_TypeFinder_matches : y_TypeFinder_matches.cls ≠ "java/lang/invoke/MethodHandle" ∧ y_TypeFinder_matches.cls ≠ "java/lang/invoke/VarHandle" ∧ (parseMethodDescriptor y_TypeFinder_matches.desc).map (fun d => d.parameters.length) = some 1 := by decide +kernel
theorem hd_TypeFinder_count : y_TypeFinder_count.cls ≠ "java/lang/invoke/MethodHandle" ∧ y_TypeFinder_count.cls ≠ "java/lang/invoke/VarHandle" ∧ (parseMethodDescriptor y_TypeFinder_count.desc).map (fun d => d.parameters.length) = some 1 := by decide +kernel
theorem hd_Objects_checkIndex : y_Objects_checkIndex.cls ≠ "java/lang/invoke/MethodHandle" ∧ y_Objects_checkIndex.cls ≠ "java/lang/invoke/VarHandle" ∧ (parseMethodDescriptor y_Objects_checkIndex.desc).map (fun d => d.parameters.length) = some 2 := by decide +kernel
theorem hd_ArrayList_elementData : y_ArrayList_elementData.cls ≠ "java/lang/invoke/MethodHandle" ∧ y_ArrayList_elementData.cls ≠ "java/lang/invoke/VarHandle" ∧ (parseMethodDescriptor y_ArrayList_elementData.desc).map (fun d => d.parameters.length) = some 1 := by decide +kernel
theorem hd_ArrayList_get : y_ArrayList_get.cls ≠ "java/lang/invoke/MethodHandle" ∧ y_ArrayList_get.cls ≠ "java/lang/invoke/VarHandle" ∧ (parseMethodDescriptor y_ArrayList_get.desc).map (fun d => d.parameters.length) = some 1 := by decide +kernel
theorem hd_TypeFinder_Known_allowance : y_TypeFinder_Known_allowance.cls ≠ "java/lang/invoke/MethodHandle" ∧ y_TypeFinder_Known_allowance.cls ≠ "java/lang/invoke/VarHandle" ∧ (parseMethodDescriptor y_TypeFinder_Known_allowance.desc).map (fun d => d.parameters.length) = some 1 := by decide +kernel
