theorem d_TypeFinderLaw_ask_0 : decode b_TypeFinderLaw_ask 0 = .ok (.aload_n 1, 1) := by decide +kernel
theorem d_TypeFinderLaw_ask_1 : decode b_TypeFinderLaw_ask 1 = .ok (.iconst 0, 1) := by decide +kernel
theorem d_TypeFinderLaw_ask_2 : decode b_TypeFinderLaw_ask 2 = .ok (.aload_n 0, 1) := by decide +kernel
theorem d_TypeFinderLaw_ask_3 : decode b_TypeFinderLaw_ask 3 = .ok (.invokevirtual 21, 3) := by decide +kernel
theorem d_TypeFinderLaw_ask_11 : decode b_TypeFinderLaw_ask 11 = .ok (.astore_n 2, 1) := by decide +kernel
theorem d_TypeFinderLaw_ask_12 : decode b_TypeFinderLaw_ask 12 = .ok (.iconst 1, 1) := by decide +kernel
theorem d_TypeFinderLaw_ask_13 : decode b_TypeFinderLaw_ask 13 = .ok (.ireturn, 1) := by decide +kernel
theorem d_TypeFinderLaw_declare_0 : decode b_TypeFinderLaw_declare 0 = .ok (.aload_n 1, 1) := by decide +kernel
theorem d_TypeFinderLaw_declare_1 : decode b_TypeFinderLaw_declare 1 = .ok (.iconst 0, 1) := by decide +kernel
theorem d_TypeFinderLaw_declare_2 : decode b_TypeFinderLaw_declare 2 = .ok (.aload_n 0, 1) := by decide +kernel
theorem d_TypeFinderLaw_declare_3 : decode b_TypeFinderLaw_declare 3 = .ok (.invokevirtual 7, 3) := by decide +kernel
theorem d_TypeFinderLaw_declare_11 : decode b_TypeFinderLaw_declare 11 = .ok (.astore_n 2, 1) := by decide +kernel
theorem d_TypeFinderLaw_declare_12 : decode b_TypeFinderLaw_declare 12 = .ok (.iconst 1, 1) := by decide +kernel
theorem d_TypeFinderLaw_declare_13 : decode b_TypeFinderLaw_declare 13 = .ok (.ireturn, 1) := by decide +kernel
