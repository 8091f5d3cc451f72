abbrev b_TypeFinderLaw_law : ByteArray := code
def y_TypeFinderLaw_law : MethodName := ⟨"TypeFinderLaw", "law", "([I)Z"⟩
abbrev b_TypeFinderModel_thrown : ByteArray := prog_14_method_4_code
def y_TypeFinderModel_thrown : MethodName := ⟨"TypeFinderModel", "thrown", "()I"⟩
theorem k_710 : Cond.classLink "TypeFinderLaw" 8 "TypeFinder" ∈ xb_g := xb_m 39 (by decide +kernel) (by decide)
theorem k_711 : Cond.instantiable "TypeFinder" 9 ∈ xb_g := xb_m 40 (by decide +kernel) (by decide)
set_option maxRecDepth 100000 in
theorem k_712 : Cond.code y_TypeFinder_init b_TypeFinder_init 1 none ∈ xb_g := xb_m 43 (by rfl) (by decide)
theorem k_713 : Cond.methodLink "TypeFinderLaw" 24 y_TypeFinder_init ∈ xb_g := xb_m 41 (by decide +kernel) (by decide)
theorem k_714 : Cond.instanceMethod y_TypeFinder_init ∈ xb_g := xb_m 42 (by decide +kernel) (by decide)
theorem k_715 : Cond.classLink "TypeFinderLaw" 25 "TypeFinderModel" ∈ xb_g := xb_m 1578 (by decide +kernel) (by decide)
theorem k_716 : Cond.instantiable "TypeFinderModel" 80 ∈ xb_g := xb_m 1579 (by decide +kernel) (by decide)
set_option maxRecDepth 100000 in
theorem k_717 : Cond.code y_TypeFinderModel_init b_TypeFinderModel_init 2 none ∈ xb_g := xb_m 1582 (by rfl) (by decide)
theorem k_718 : Cond.methodLink "TypeFinderLaw" 27 y_TypeFinderModel_init ∈ xb_g := xb_m 1580 (by decide +kernel) (by decide)
theorem k_719 : Cond.instanceMethod y_TypeFinderModel_init ∈ xb_g := xb_m 1581 (by decide +kernel) (by decide)
set_option maxRecDepth 100000 in
theorem k_720 : Cond.code y_TypeFinder_scheme b_TypeFinder_scheme 3 (some .int) ∈ xb_g := xb_m 802 (by rfl) (by decide)
theorem k_721 : Cond.methodLink "TypeFinderLaw" 47 y_TypeFinder_scheme ∈ xb_g := xb_m 799 (by decide +kernel) (by decide)
theorem k_722 : Cond.instanceMethod y_TypeFinder_scheme ∈ xb_g := xb_m 800 (by decide +kernel) (by decide)
theorem k_723 : Cond.selects "TypeFinder" y_TypeFinder_scheme y_TypeFinder_scheme ∈ xb_g := xb_m 801 (by decide +kernel) (by decide)
set_option maxRecDepth 100000 in
theorem k_724 : Cond.code y_TypeFinderModel_scheme b_TypeFinderModel_scheme 3 (some .int) ∈ xb_g := xb_m 2244 (by rfl) (by decide)
theorem k_725 : Cond.methodLink "TypeFinderLaw" 51 y_TypeFinderModel_scheme ∈ xb_g := xb_m 2241 (by decide +kernel) (by decide)
theorem k_726 : Cond.instanceMethod y_TypeFinderModel_scheme ∈ xb_g := xb_m 2242 (by decide +kernel) (by decide)
theorem k_727 : Cond.selects "TypeFinderModel" y_TypeFinderModel_scheme y_TypeFinderModel_scheme ∈ xb_g := xb_m 2243 (by decide +kernel) (by decide)
set_option maxRecDepth 100000 in
theorem k_728 : Cond.code y_TypeFinder_written b_TypeFinder_written 2 (some .int) ∈ xb_g := xb_m 945 (by rfl) (by decide)
theorem k_729 : Cond.methodLink "TypeFinderLaw" 52 y_TypeFinder_written ∈ xb_g := xb_m 942 (by decide +kernel) (by decide)
theorem k_730 : Cond.instanceMethod y_TypeFinder_written ∈ xb_g := xb_m 943 (by decide +kernel) (by decide)
theorem k_731 : Cond.selects "TypeFinder" y_TypeFinder_written y_TypeFinder_written ∈ xb_g := xb_m 944 (by decide +kernel) (by decide)
set_option maxRecDepth 100000 in
theorem k_732 : Cond.code y_TypeFinderModel_written b_TypeFinderModel_written 2 (some .int) ∈ xb_g := xb_m 2248 (by rfl) (by decide)
theorem k_733 : Cond.methodLink "TypeFinderLaw" 55 y_TypeFinderModel_written ∈ xb_g := xb_m 2245 (by decide +kernel) (by decide)
theorem k_734 : Cond.instanceMethod y_TypeFinderModel_written ∈ xb_g := xb_m 2246 (by decide +kernel) (by decide)
theorem k_735 : Cond.selects "TypeFinderModel" y_TypeFinderModel_written y_TypeFinderModel_written ∈ xb_g := xb_m 2247 (by decide +kernel) (by decide)
set_option maxRecDepth 100000 in
theorem k_736 : Cond.code y_TypeFinder_matches b_TypeFinder_matches 2 (some .int) ∈ xb_g := xb_m 1017 (by rfl) (by decide)
theorem k_737 : Cond.methodLink "TypeFinderLaw" 61 y_TypeFinder_matches ∈ xb_g := xb_m 1014 (by decide +kernel) (by decide)
theorem k_738 : Cond.instanceMethod y_TypeFinder_matches ∈ xb_g := xb_m 1015 (by decide +kernel) (by decide)
theorem k_739 : Cond.selects "TypeFinder" y_TypeFinder_matches y_TypeFinder_matches ∈ xb_g := xb_m 1016 (by decide +kernel) (by decide)
set_option maxRecDepth 100000 in
theorem k_740 : Cond.code y_TypeFinderModel_matches b_TypeFinderModel_matches 2 (some .int) ∈ xb_g := xb_m 2256 (by rfl) (by decide)
theorem k_741 : Cond.methodLink "TypeFinderLaw" 64 y_TypeFinderModel_matches ∈ xb_g := xb_m 2253 (by decide +kernel) (by decide)
theorem k_742 : Cond.instanceMethod y_TypeFinderModel_matches ∈ xb_g := xb_m 2254 (by decide +kernel) (by decide)
theorem k_743 : Cond.selects "TypeFinderModel" y_TypeFinderModel_matches y_TypeFinderModel_matches ∈ xb_g := xb_m 2255 (by decide +kernel) (by decide)
set_option maxRecDepth 100000 in
theorem k_744 : Cond.code y_TypeFinder_count b_TypeFinder_count 2 (some .int) ∈ xb_g := xb_m 1021 (by rfl) (by decide)
theorem k_745 : Cond.methodLink "TypeFinderLaw" 65 y_TypeFinder_count ∈ xb_g := xb_m 1018 (by decide +kernel) (by decide)
theorem k_746 : Cond.instanceMethod y_TypeFinder_count ∈ xb_g := xb_m 1019 (by decide +kernel) (by decide)
theorem k_747 : Cond.selects "TypeFinder" y_TypeFinder_count y_TypeFinder_count ∈ xb_g := xb_m 1020 (by decide +kernel) (by decide)
set_option maxRecDepth 100000 in
theorem k_748 : Cond.code y_TypeFinderModel_count b_TypeFinderModel_count 2 (some .int) ∈ xb_g := xb_m 2260 (by rfl) (by decide)
theorem k_749 : Cond.methodLink "TypeFinderLaw" 68 y_TypeFinderModel_count ∈ xb_g := xb_m 2257 (by decide +kernel) (by decide)
theorem k_750 : Cond.instanceMethod y_TypeFinderModel_count ∈ xb_g := xb_m 2258 (by decide +kernel) (by decide)
theorem k_751 : Cond.selects "TypeFinderModel" y_TypeFinderModel_count y_TypeFinderModel_count ∈ xb_g := xb_m 2259 (by decide +kernel) (by decide)
theorem k_752 : Cond.constantLong "TypeFinderLaw" 28 (4294967295) ∈ xb_g := xb_m 2261 (by decide +kernel) (by decide)
set_option maxRecDepth 100000 in
theorem k_753 : Cond.code y_TypeFinder_type b_TypeFinder_type 5 (some .boolean) ∈ xb_g := xb_m 795 (by rfl) (by decide)
theorem k_754 : Cond.methodLink "TypeFinderLaw" 30 y_TypeFinder_type ∈ xb_g := xb_m 792 (by decide +kernel) (by decide)
theorem k_755 : Cond.instanceMethod y_TypeFinder_type ∈ xb_g := xb_m 793 (by decide +kernel) (by decide)
theorem k_756 : Cond.selects "TypeFinder" y_TypeFinder_type y_TypeFinder_type ∈ xb_g := xb_m 794 (by decide +kernel) (by decide)
set_option maxRecDepth 100000 in
theorem k_757 : Cond.code y_TypeFinderModel_type b_TypeFinderModel_type 7 (some .boolean) ∈ xb_g := xb_m 1846 (by rfl) (by decide)
theorem k_758 : Cond.methodLink "TypeFinderLaw" 34 y_TypeFinderModel_type ∈ xb_g := xb_m 1843 (by decide +kernel) (by decide)
theorem k_759 : Cond.instanceMethod y_TypeFinderModel_type ∈ xb_g := xb_m 1844 (by decide +kernel) (by decide)
theorem k_760 : Cond.selects "TypeFinderModel" y_TypeFinderModel_type y_TypeFinderModel_type ∈ xb_g := xb_m 1845 (by decide +kernel) (by decide)
set_option maxRecDepth 100000 in
theorem k_761 : Cond.code y_TypeFinder_ifx b_TypeFinder_ifx 4 (some .boolean) ∈ xb_g := xb_m 963 (by rfl) (by decide)
theorem k_762 : Cond.methodLink "TypeFinderLaw" 56 y_TypeFinder_ifx ∈ xb_g := xb_m 960 (by decide +kernel) (by decide)
theorem k_763 : Cond.instanceMethod y_TypeFinder_ifx ∈ xb_g := xb_m 961 (by decide +kernel) (by decide)
theorem k_764 : Cond.selects "TypeFinder" y_TypeFinder_ifx y_TypeFinder_ifx ∈ xb_g := xb_m 962 (by decide +kernel) (by decide)
set_option maxRecDepth 100000 in
theorem k_765 : Cond.code y_TypeFinderModel_ifx b_TypeFinderModel_ifx 5 (some .boolean) ∈ xb_g := xb_m 2252 (by rfl) (by decide)
theorem k_766 : Cond.methodLink "TypeFinderLaw" 60 y_TypeFinderModel_ifx ∈ xb_g := xb_m 2249 (by decide +kernel) (by decide)
theorem k_767 : Cond.instanceMethod y_TypeFinderModel_ifx ∈ xb_g := xb_m 2250 (by decide +kernel) (by decide)
theorem k_768 : Cond.selects "TypeFinderModel" y_TypeFinderModel_ifx y_TypeFinderModel_ifx ∈ xb_g := xb_m 2251 (by decide +kernel) (by decide)
theorem k_769 : Cond.methodLink "TypeFinderLaw" 35 y_TypeFinderLaw_declare ∈ xb_g := xb_m 1029 (by decide +kernel) (by decide)
set_option maxRecDepth 100000 in
theorem k_770 : Cond.code y_TypeFinderModel_declare b_TypeFinderModel_declare 3 (some .int) ∈ xb_g := xb_m 2176 (by rfl) (by decide)
theorem k_771 : Cond.methodLink "TypeFinderLaw" 40 y_TypeFinderModel_declare ∈ xb_g := xb_m 2173 (by decide +kernel) (by decide)
theorem k_772 : Cond.instanceMethod y_TypeFinderModel_declare ∈ xb_g := xb_m 2174 (by decide +kernel) (by decide)
theorem k_773 : Cond.selects "TypeFinderModel" y_TypeFinderModel_declare y_TypeFinderModel_declare ∈ xb_g := xb_m 2175 (by decide +kernel) (by decide)
set_option maxRecDepth 100000 in
theorem k_774 : Cond.code y_TypeFinderModel_thrown b_TypeFinderModel_thrown 1 (some .int) ∈ xb_g := xb_m 1842 (by rfl) (by decide)
theorem k_775 : Cond.methodLink "TypeFinderLaw" 41 y_TypeFinderModel_thrown ∈ xb_g := xb_m 1839 (by decide +kernel) (by decide)
theorem k_776 : Cond.instanceMethod y_TypeFinderModel_thrown ∈ xb_g := xb_m 1840 (by decide +kernel) (by decide)
theorem k_777 : Cond.selects "TypeFinderModel" y_TypeFinderModel_thrown y_TypeFinderModel_thrown ∈ xb_g := xb_m 1841 (by decide +kernel) (by decide)
theorem k_778 : Cond.methodLink "TypeFinderLaw" 44 y_TypeFinderLaw_ask ∈ xb_g := xb_m 1563 (by decide +kernel) (by decide)
set_option maxRecDepth 100000 in
theorem k_779 : Cond.code y_TypeFinderModel_ask b_TypeFinderModel_ask 2 (some .int) ∈ xb_g := xb_m 1852 (by rfl) (by decide)
theorem k_780 : Cond.methodLink "TypeFinderLaw" 46 y_TypeFinderModel_ask ∈ xb_g := xb_m 1849 (by decide +kernel) (by decide)
theorem k_781 : Cond.instanceMethod y_TypeFinderModel_ask ∈ xb_g := xb_m 1850 (by decide +kernel) (by decide)
theorem k_782 : Cond.selects "TypeFinderModel" y_TypeFinderModel_ask y_TypeFinderModel_ask ∈ xb_g := xb_m 1851 (by decide +kernel) (by decide)
theorem hd_TypeFinderLaw_law : y_TypeFinderLaw_law.cls ≠ "java/lang/invoke/MethodHandle" ∧ y_TypeFinderLaw_law.cls ≠ "java/lang/invoke/VarHandle" ∧ (parseMethodDescriptor y_TypeFinderLaw_law.desc).map (fun d => d.parameters.length) = some 1 := by decide +kernel
theorem hd_TypeFinderModel_thrown : y_TypeFinderModel_thrown.cls ≠ "java/lang/invoke/MethodHandle" ∧ y_TypeFinderModel_thrown.cls ≠ "java/lang/invoke/VarHandle" ∧ (parseMethodDescriptor y_TypeFinderModel_thrown.desc).map (fun d => d.parameters.length) = some 0 := by decide +kernel
