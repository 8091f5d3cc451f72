theorem d_TypeFinder_type_103 : decode b_TypeFinder_type 103 = .ok (.iconst 1, 1) := by decide +kernel
theorem d_TypeFinder_type_104 : decode b_TypeFinder_type 104 = .ok (.ireturn, 1) := by decide +kernel
