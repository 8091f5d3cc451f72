theorem d_TypeFinder_Unifier_init_4 : decode b_TypeFinder_Unifier_init 4 = .ok (.aload_n 0, 1) := by decide +kernel
theorem d_TypeFinder_Unifier_init_5 : decode b_TypeFinder_Unifier_init 5 = .ok (.new 7, 3) := by decide +kernel
theorem d_TypeFinder_Unifier_init_8 : decode b_TypeFinder_Unifier_init 8 = .ok (.dup, 1) := by decide +kernel
theorem d_TypeFinder_Unifier_init_9 : decode b_TypeFinder_Unifier_init 9 = .ok (.invokespecial 9, 3) := by decide +kernel
theorem d_TypeFinder_Unifier_init_12 : decode b_TypeFinder_Unifier_init 12 = .ok (.putfield 10, 3) := by decide +kernel
theorem d_TypeFinder_Unifier_init_15 : decode b_TypeFinder_Unifier_init 15 = .ok (.aload_n 0, 1) := by decide +kernel
theorem d_TypeFinder_Unifier_init_16 : decode b_TypeFinder_Unifier_init 16 = .ok (.new 7, 3) := by decide +kernel
theorem d_TypeFinder_Unifier_init_19 : decode b_TypeFinder_Unifier_init 19 = .ok (.dup, 1) := by decide +kernel
theorem d_TypeFinder_Unifier_init_20 : decode b_TypeFinder_Unifier_init 20 = .ok (.invokespecial 9, 3) := by decide +kernel
theorem d_TypeFinder_Unifier_init_23 : decode b_TypeFinder_Unifier_init 23 = .ok (.putfield 16, 3) := by decide +kernel
theorem d_TypeFinder_Unifier_init_26 : decode b_TypeFinder_Unifier_init 26 = .ok (.aload_n 0, 1) := by decide +kernel
theorem d_TypeFinder_Unifier_init_27 : decode b_TypeFinder_Unifier_init 27 = .ok (.new 7, 3) := by decide +kernel
theorem d_TypeFinder_Unifier_init_30 : decode b_TypeFinder_Unifier_init 30 = .ok (.dup, 1) := by decide +kernel
theorem d_TypeFinder_Unifier_init_31 : decode b_TypeFinder_Unifier_init 31 = .ok (.invokespecial 9, 3) := by decide +kernel
theorem d_TypeFinder_Unifier_init_34 : decode b_TypeFinder_Unifier_init 34 = .ok (.putfield 19, 3) := by decide +kernel
theorem d_TypeFinder_Unifier_init_37 : decode b_TypeFinder_Unifier_init 37 = .ok (.return_, 1) := by decide +kernel
theorem d_TypeFinder_Writer_init_0 : decode b_TypeFinder_Writer_init 0 = .ok (.aload_n 0, 1) := by decide +kernel
theorem d_TypeFinder_Writer_init_1 : decode b_TypeFinder_Writer_init 1 = .ok (.invokespecial 3, 3) := by decide +kernel
theorem d_TypeFinder_Writer_init_4 : decode b_TypeFinder_Writer_init 4 = .ok (.aload_n 0, 1) := by decide +kernel
theorem d_TypeFinder_Writer_init_5 : decode b_TypeFinder_Writer_init 5 = .ok (.new 9, 3) := by decide +kernel
theorem d_TypeFinder_Writer_init_8 : decode b_TypeFinder_Writer_init 8 = .ok (.dup, 1) := by decide +kernel
theorem d_TypeFinder_Writer_init_9 : decode b_TypeFinder_Writer_init 9 = .ok (.invokespecial 11, 3) := by decide +kernel
theorem d_TypeFinder_Writer_init_12 : decode b_TypeFinder_Writer_init 12 = .ok (.putfield 12, 3) := by decide +kernel
theorem d_TypeFinder_Writer_init_15 : decode b_TypeFinder_Writer_init 15 = .ok (.aload_n 0, 1) := by decide +kernel
theorem d_TypeFinder_Writer_init_16 : decode b_TypeFinder_Writer_init 16 = .ok (.new 18, 3) := by decide +kernel
theorem d_TypeFinder_Writer_init_19 : decode b_TypeFinder_Writer_init 19 = .ok (.dup, 1) := by decide +kernel
theorem d_TypeFinder_Writer_init_20 : decode b_TypeFinder_Writer_init 20 = .ok (.invokespecial 20, 3) := by decide +kernel
theorem d_TypeFinder_Writer_init_23 : decode b_TypeFinder_Writer_init 23 = .ok (.putfield 21, 3) := by decide +kernel
theorem d_TypeFinder_Writer_init_26 : decode b_TypeFinder_Writer_init 26 = .ok (.return_, 1) := by decide +kernel
theorem d_TypeFinder_ask_0 : decode b_TypeFinder_ask 0 = .ok (.aload_n 0, 1) := by decide +kernel
theorem d_TypeFinder_ask_1 : decode b_TypeFinder_ask 1 = .ok (.getfield 51, 3) := by decide +kernel
theorem d_TypeFinder_ask_4 : decode b_TypeFinder_ask 4 = .ok (.bipush 60, 2) := by decide +kernel
theorem d_TypeFinder_ask_6 : decode b_TypeFinder_ask 6 = .ok (.if_icmp .lt 6, 3) := by decide +kernel
theorem d_TypeFinder_ask_12 : decode b_TypeFinder_ask 12 = .ok (.aload_n 0, 1) := by decide +kernel
theorem d_TypeFinder_ask_13 : decode b_TypeFinder_ask 13 = .ok (.getfield 16, 3) := by decide +kernel
theorem d_TypeFinder_ask_16 : decode b_TypeFinder_ask 16 = .ok (.aload_n 0, 1) := by decide +kernel
theorem d_TypeFinder_ask_17 : decode b_TypeFinder_ask 17 = .ok (.getfield 9, 3) := by decide +kernel
theorem d_TypeFinder_ask_20 : decode b_TypeFinder_ask 20 = .ok (.aload_n 0, 1) := by decide +kernel
theorem d_TypeFinder_ask_21 : decode b_TypeFinder_ask 21 = .ok (.invokevirtual 54, 3) := by decide +kernel
theorem d_TypeFinder_ask_24 : decode b_TypeFinder_ask 24 = .ok (.invokevirtual 85, 3) := by decide +kernel
theorem d_TypeFinder_declare_0 : decode b_TypeFinder_declare 0 = .ok (.aload_n 0, 1) := by decide +kernel
theorem d_TypeFinder_declare_1 : decode b_TypeFinder_declare 1 = .ok (.getfield 51, 3) := by decide +kernel
theorem d_TypeFinder_declare_4 : decode b_TypeFinder_declare 4 = .ok (.bipush 60, 2) := by decide +kernel
theorem d_TypeFinder_declare_6 : decode b_TypeFinder_declare 6 = .ok (.if_icmp .lt 6, 3) := by decide +kernel
theorem d_TypeFinder_declare_12 : decode b_TypeFinder_declare 12 = .ok (.aload_n 0, 1) := by decide +kernel
theorem d_TypeFinder_declare_13 : decode b_TypeFinder_declare 13 = .ok (.getfield 16, 3) := by decide +kernel
theorem d_TypeFinder_declare_16 : decode b_TypeFinder_declare 16 = .ok (.aload_n 0, 1) := by decide +kernel
theorem d_TypeFinder_declare_17 : decode b_TypeFinder_declare 17 = .ok (.getfield 9, 3) := by decide +kernel
theorem d_TypeFinder_declare_20 : decode b_TypeFinder_declare 20 = .ok (.aload_n 0, 1) := by decide +kernel
theorem d_TypeFinder_declare_21 : decode b_TypeFinder_declare 21 = .ok (.invokevirtual 54, 3) := by decide +kernel
theorem d_TypeFinder_declare_24 : decode b_TypeFinder_declare 24 = .ok (.invokevirtual 58, 3) := by decide +kernel
theorem d_TypeFinder_init_0 : decode b_TypeFinder_init 0 = .ok (.aload_n 0, 1) := by decide +kernel
theorem d_TypeFinder_init_1 : decode b_TypeFinder_init 1 = .ok (.invokespecial 1, 3) := by decide +kernel
theorem d_TypeFinder_init_4 : decode b_TypeFinder_init 4 = .ok (.aload_n 0, 1) := by decide +kernel
theorem d_TypeFinder_init_5 : decode b_TypeFinder_init 5 = .ok (.bipush 80, 2) := by decide +kernel
theorem d_TypeFinder_init_7 : decode b_TypeFinder_init 7 = .ok (.newarray .char, 2) := by decide +kernel
theorem d_TypeFinder_init_9 : decode b_TypeFinder_init 9 = .ok (.putfield 9, 3) := by decide +kernel
theorem d_TypeFinder_init_12 : decode b_TypeFinder_init 12 = .ok (.aload_n 0, 1) := by decide +kernel
theorem d_TypeFinder_init_13 : decode b_TypeFinder_init 13 = .ok (.new 13, 3) := by decide +kernel
theorem d_TypeFinder_init_16 : decode b_TypeFinder_init 16 = .ok (.dup, 1) := by decide +kernel
theorem d_TypeFinder_init_17 : decode b_TypeFinder_init 17 = .ok (.invokespecial 15, 3) := by decide +kernel
theorem d_TypeFinder_init_20 : decode b_TypeFinder_init 20 = .ok (.putfield 16, 3) := by decide +kernel
theorem d_TypeFinder_init_23 : decode b_TypeFinder_init 23 = .ok (.aload_n 0, 1) := by decide +kernel
theorem d_TypeFinder_init_24 : decode b_TypeFinder_init 24 = .ok (.new 20, 3) := by decide +kernel
theorem d_TypeFinder_init_27 : decode b_TypeFinder_init 27 = .ok (.dup, 1) := by decide +kernel
theorem d_TypeFinder_init_28 : decode b_TypeFinder_init 28 = .ok (.invokespecial 22, 3) := by decide +kernel
theorem d_TypeFinder_init_31 : decode b_TypeFinder_init 31 = .ok (.putfield 23, 3) := by decide +kernel
theorem d_TypeFinder_init_34 : decode b_TypeFinder_init 34 = .ok (.aload_n 0, 1) := by decide +kernel
theorem d_TypeFinder_init_35 : decode b_TypeFinder_init 35 = .ok (.new 27, 3) := by decide +kernel
theorem d_TypeFinder_init_38 : decode b_TypeFinder_init 38 = .ok (.dup, 1) := by decide +kernel
theorem d_TypeFinder_init_39 : decode b_TypeFinder_init 39 = .ok (.aload_n 0, 1) := by decide +kernel
theorem d_TypeFinder_init_40 : decode b_TypeFinder_init 40 = .ok (.getfield 23, 3) := by decide +kernel
theorem d_TypeFinder_init_43 : decode b_TypeFinder_init 43 = .ok (.invokespecial 29, 3) := by decide +kernel
theorem d_TypeFinder_init_46 : decode b_TypeFinder_init 46 = .ok (.putfield 32, 3) := by decide +kernel
theorem d_TypeFinder_init_49 : decode b_TypeFinder_init 49 = .ok (.aload_n 0, 1) := by decide +kernel
theorem d_TypeFinder_init_50 : decode b_TypeFinder_init 50 = .ok (.new 36, 3) := by decide +kernel
theorem d_TypeFinder_init_53 : decode b_TypeFinder_init 53 = .ok (.dup, 1) := by decide +kernel
theorem d_TypeFinder_init_54 : decode b_TypeFinder_init 54 = .ok (.invokespecial 38, 3) := by decide +kernel
theorem d_TypeFinder_init_57 : decode b_TypeFinder_init 57 = .ok (.putfield 39, 3) := by decide +kernel
theorem d_TypeFinder_init_60 : decode b_TypeFinder_init 60 = .ok (.return_, 1) := by decide +kernel
theorem d_TypeFinder_takeDraft_0 : decode b_TypeFinder_takeDraft 0 = .ok (.aload_n 0, 1) := by decide +kernel
theorem d_TypeFinder_takeDraft_1 : decode b_TypeFinder_takeDraft 1 = .ok (.getfield 47, 3) := by decide +kernel
theorem d_TypeFinder_takeDraft_4 : decode b_TypeFinder_takeDraft 4 = .ok (.istore_n 1, 1) := by decide +kernel
theorem d_TypeFinder_takeDraft_5 : decode b_TypeFinder_takeDraft 5 = .ok (.aload_n 0, 1) := by decide +kernel
theorem d_TypeFinder_takeDraft_6 : decode b_TypeFinder_takeDraft 6 = .ok (.iconst 0, 1) := by decide +kernel
theorem d_TypeFinder_takeDraft_7 : decode b_TypeFinder_takeDraft 7 = .ok (.putfield 47, 3) := by decide +kernel
theorem d_TypeFinder_takeDraft_10 : decode b_TypeFinder_takeDraft 10 = .ok (.aload_n 0, 1) := by decide +kernel
theorem d_TypeFinder_takeDraft_11 : decode b_TypeFinder_takeDraft 11 = .ok (.dup, 1) := by decide +kernel
theorem d_TypeFinder_takeDraft_12 : decode b_TypeFinder_takeDraft 12 = .ok (.getfield 51, 3) := by decide +kernel
theorem d_TypeFinder_takeDraft_15 : decode b_TypeFinder_takeDraft 15 = .ok (.iconst 1, 1) := by decide +kernel
theorem d_TypeFinder_takeDraft_16 : decode b_TypeFinder_takeDraft 16 = .ok (.iadd, 1) := by decide +kernel
theorem d_TypeFinder_takeDraft_17 : decode b_TypeFinder_takeDraft 17 = .ok (.putfield 51, 3) := by decide +kernel
theorem d_TypeFinder_takeDraft_20 : decode b_TypeFinder_takeDraft 20 = .ok (.iload_n 1, 1) := by decide +kernel
theorem d_TypeFinder_takeDraft_21 : decode b_TypeFinder_takeDraft 21 = .ok (.ireturn, 1) := by decide +kernel
