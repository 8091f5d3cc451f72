theorem d_TypeFinder_Tokens_init_33 : decode b_TypeFinder_Tokens_init 33 = .ok (.istore_n 3, 1) := by decide +kernel
theorem d_TypeFinder_Tokens_init_34 : decode b_TypeFinder_Tokens_init 34 = .ok (.iload_n 3, 1) := by decide +kernel
theorem d_TypeFinder_Tokens_init_35 : decode b_TypeFinder_Tokens_init 35 = .ok (.ldc 22, 2) := by decide +kernel
theorem d_TypeFinder_Tokens_init_37 : decode b_TypeFinder_Tokens_init 37 = .ok (.invokevirtual 24, 3) := by decide +kernel
theorem d_TypeFinder_Tokens_init_40 : decode b_TypeFinder_Tokens_init 40 = .ok (.if_icmp .ge 52, 3) := by decide +kernel
theorem d_TypeFinder_Tokens_init_43 : decode b_TypeFinder_Tokens_init 43 = .ok (.iload_n 1, 1) := by decide +kernel
theorem d_TypeFinder_Tokens_init_44 : decode b_TypeFinder_Tokens_init 44 = .ok (.aload_n 0, 1) := by decide +kernel
theorem d_TypeFinder_Tokens_init_45 : decode b_TypeFinder_Tokens_init 45 = .ok (.getfield 19, 3) := by decide +kernel
theorem d_TypeFinder_Tokens_init_48 : decode b_TypeFinder_Tokens_init 48 = .ok (.arraylength, 1) := by decide +kernel
theorem d_TypeFinder_Tokens_init_49 : decode b_TypeFinder_Tokens_init 49 = .ok (.if_icmp .ge 43, 3) := by decide +kernel
theorem d_TypeFinder_Tokens_init_52 : decode b_TypeFinder_Tokens_init 52 = .ok (.ldc 22, 2) := by decide +kernel
theorem d_TypeFinder_Tokens_init_54 : decode b_TypeFinder_Tokens_init 54 = .ok (.iload_n 3, 1) := by decide +kernel
theorem d_TypeFinder_Tokens_init_55 : decode b_TypeFinder_Tokens_init 55 = .ok (.invokevirtual 30, 3) := by decide +kernel
theorem d_TypeFinder_Tokens_init_58 : decode b_TypeFinder_Tokens_init 58 = .ok (.bipush 32, 2) := by decide +kernel
theorem d_TypeFinder_Tokens_init_60 : decode b_TypeFinder_Tokens_init 60 = .ok (.if_icmp .ne 26, 3) := by decide +kernel
theorem d_TypeFinder_Tokens_init_63 : decode b_TypeFinder_Tokens_init 63 = .ok (.aload_n 0, 1) := by decide +kernel
theorem d_TypeFinder_Tokens_init_64 : decode b_TypeFinder_Tokens_init 64 = .ok (.getfield 19, 3) := by decide +kernel
theorem d_TypeFinder_Tokens_init_67 : decode b_TypeFinder_Tokens_init 67 = .ok (.iload_n 1, 1) := by decide +kernel
theorem d_TypeFinder_Tokens_init_68 : decode b_TypeFinder_Tokens_init 68 = .ok (.ldc 22, 2) := by decide +kernel
theorem d_TypeFinder_Tokens_init_70 : decode b_TypeFinder_Tokens_init 70 = .ok (.iload_n 2, 1) := by decide +kernel
theorem d_TypeFinder_Tokens_init_71 : decode b_TypeFinder_Tokens_init 71 = .ok (.iload_n 3, 1) := by decide +kernel
theorem d_TypeFinder_Tokens_init_72 : decode b_TypeFinder_Tokens_init 72 = .ok (.invokevirtual 34, 3) := by decide +kernel
theorem d_TypeFinder_Tokens_init_75 : decode b_TypeFinder_Tokens_init 75 = .ok (.invokestatic 38, 3) := by decide +kernel
theorem d_TypeFinder_Tokens_init_78 : decode b_TypeFinder_Tokens_init 78 = .ok (.lastore, 1) := by decide +kernel
theorem d_TypeFinder_Tokens_init_79 : decode b_TypeFinder_Tokens_init 79 = .ok (.iinc 1 1, 3) := by decide +kernel
theorem d_TypeFinder_Tokens_init_82 : decode b_TypeFinder_Tokens_init 82 = .ok (.iload_n 3, 1) := by decide +kernel
theorem d_TypeFinder_Tokens_init_83 : decode b_TypeFinder_Tokens_init 83 = .ok (.iconst 1, 1) := by decide +kernel
theorem d_TypeFinder_Tokens_init_84 : decode b_TypeFinder_Tokens_init 84 = .ok (.iadd, 1) := by decide +kernel
theorem d_TypeFinder_Tokens_init_85 : decode b_TypeFinder_Tokens_init 85 = .ok (.istore_n 2, 1) := by decide +kernel
theorem d_TypeFinder_Tokens_init_86 : decode b_TypeFinder_Tokens_init 86 = .ok (.iinc 3 1, 3) := by decide +kernel
theorem d_TypeFinder_Tokens_init_89 : decode b_TypeFinder_Tokens_init 89 = .ok (.goto (-55), 3) := by decide +kernel
theorem d_TypeFinder_Tokens_init_92 : decode b_TypeFinder_Tokens_init 92 = .ok (.return_, 1) := by decide +kernel
theorem d_TypeFinder_Tokens_is_0 : decode b_TypeFinder_Tokens_is 0 = .ok (.aload_n 0, 1) := by decide +kernel
theorem d_TypeFinder_Tokens_is_1 : decode b_TypeFinder_Tokens_is 1 = .ok (.getfield 9, 3) := by decide +kernel
theorem d_TypeFinder_Tokens_is_4 : decode b_TypeFinder_Tokens_is 4 = .ok (.aload_n 0, 1) := by decide +kernel
theorem d_TypeFinder_Tokens_is_5 : decode b_TypeFinder_Tokens_is 5 = .ok (.getfield 46, 3) := by decide +kernel
theorem d_TypeFinder_Tokens_is_8 : decode b_TypeFinder_Tokens_is 8 = .ok (.iaload, 1) := by decide +kernel
theorem d_TypeFinder_Tokens_is_9 : decode b_TypeFinder_Tokens_is 9 = .ok (.iload_n 1, 1) := by decide +kernel
theorem d_TypeFinder_Tokens_is_10 : decode b_TypeFinder_Tokens_is 10 = .ok (.if_icmp .ne 7, 3) := by decide +kernel
theorem d_TypeFinder_Tokens_is_17 : decode b_TypeFinder_Tokens_is 17 = .ok (.iconst 0, 1) := by decide +kernel
theorem d_TypeFinder_Tokens_is_18 : decode b_TypeFinder_Tokens_is 18 = .ok (.ireturn, 1) := by decide +kernel
theorem d_TypeFinder_Tokens_kindBehind_0 : decode b_TypeFinder_Tokens_kindBehind 0 = .ok (.aload_n 0, 1) := by decide +kernel
theorem d_TypeFinder_Tokens_kindBehind_1 : decode b_TypeFinder_Tokens_kindBehind 1 = .ok (.getfield 46, 3) := by decide +kernel
theorem d_TypeFinder_Tokens_kindBehind_4 : decode b_TypeFinder_Tokens_kindBehind 4 = .ok (.iconst 1, 1) := by decide +kernel
theorem d_TypeFinder_Tokens_kindBehind_5 : decode b_TypeFinder_Tokens_kindBehind 5 = .ok (.iadd, 1) := by decide +kernel
theorem d_TypeFinder_Tokens_kindBehind_6 : decode b_TypeFinder_Tokens_kindBehind 6 = .ok (.aload_n 0, 1) := by decide +kernel
theorem d_TypeFinder_Tokens_kindBehind_7 : decode b_TypeFinder_Tokens_kindBehind 7 = .ok (.getfield 42, 3) := by decide +kernel
theorem d_TypeFinder_Tokens_kindBehind_10 : decode b_TypeFinder_Tokens_kindBehind 10 = .ok (.if_icmp .ge 17, 3) := by decide +kernel
theorem d_TypeFinder_Tokens_kindBehind_27 : decode b_TypeFinder_Tokens_kindBehind 27 = .ok (.iconst 0, 1) := by decide +kernel
theorem d_TypeFinder_Tokens_kindBehind_28 : decode b_TypeFinder_Tokens_kindBehind 28 = .ok (.ireturn, 1) := by decide +kernel
theorem d_TypeFinder_Tokens_packed_0 : decode b_TypeFinder_Tokens_packed 0 = .ok (.lconst 0, 1) := by decide +kernel
theorem d_TypeFinder_Tokens_packed_1 : decode b_TypeFinder_Tokens_packed 1 = .ok (.lstore_n 1, 1) := by decide +kernel
theorem d_TypeFinder_Tokens_packed_2 : decode b_TypeFinder_Tokens_packed 2 = .ok (.iconst 0, 1) := by decide +kernel
theorem d_TypeFinder_Tokens_packed_3 : decode b_TypeFinder_Tokens_packed 3 = .ok (.istore_n 3, 1) := by decide +kernel
theorem d_TypeFinder_Tokens_packed_4 : decode b_TypeFinder_Tokens_packed 4 = .ok (.iload_n 3, 1) := by decide +kernel
theorem d_TypeFinder_Tokens_packed_5 : decode b_TypeFinder_Tokens_packed 5 = .ok (.aload_n 0, 1) := by decide +kernel
theorem d_TypeFinder_Tokens_packed_6 : decode b_TypeFinder_Tokens_packed 6 = .ok (.invokevirtual 24, 3) := by decide +kernel
theorem d_TypeFinder_Tokens_packed_9 : decode b_TypeFinder_Tokens_packed 9 = .ok (.if_icmp .ge 21, 3) := by decide +kernel
theorem d_TypeFinder_Tokens_packed_12 : decode b_TypeFinder_Tokens_packed 12 = .ok (.lload_n 1, 1) := by decide +kernel
theorem d_TypeFinder_Tokens_packed_13 : decode b_TypeFinder_Tokens_packed 13 = .ok (.bipush 8, 2) := by decide +kernel
theorem d_TypeFinder_Tokens_packed_15 : decode b_TypeFinder_Tokens_packed 15 = .ok (.lshl, 1) := by decide +kernel
theorem d_TypeFinder_Tokens_packed_16 : decode b_TypeFinder_Tokens_packed 16 = .ok (.aload_n 0, 1) := by decide +kernel
theorem d_TypeFinder_Tokens_packed_17 : decode b_TypeFinder_Tokens_packed 17 = .ok (.iload_n 3, 1) := by decide +kernel
theorem d_TypeFinder_Tokens_packed_18 : decode b_TypeFinder_Tokens_packed 18 = .ok (.invokevirtual 30, 3) := by decide +kernel
theorem d_TypeFinder_Tokens_packed_21 : decode b_TypeFinder_Tokens_packed 21 = .ok (.i2l, 1) := by decide +kernel
theorem d_TypeFinder_Tokens_packed_22 : decode b_TypeFinder_Tokens_packed 22 = .ok (.lor, 1) := by decide +kernel
theorem d_TypeFinder_Tokens_packed_23 : decode b_TypeFinder_Tokens_packed 23 = .ok (.lstore_n 1, 1) := by decide +kernel
theorem d_TypeFinder_Tokens_packed_24 : decode b_TypeFinder_Tokens_packed 24 = .ok (.iinc 3 1, 3) := by decide +kernel
theorem d_TypeFinder_Tokens_packed_27 : decode b_TypeFinder_Tokens_packed 27 = .ok (.goto (-23), 3) := by decide +kernel
theorem d_TypeFinder_Tokens_packed_30 : decode b_TypeFinder_Tokens_packed 30 = .ok (.lload_n 1, 1) := by decide +kernel
theorem d_TypeFinder_Tokens_packed_31 : decode b_TypeFinder_Tokens_packed 31 = .ok (.lreturn, 1) := by decide +kernel
theorem d_TypeFinder_Tokens_put_0 : decode b_TypeFinder_Tokens_put 0 = .ok (.aload_n 0, 1) := by decide +kernel
theorem d_TypeFinder_Tokens_put_1 : decode b_TypeFinder_Tokens_put 1 = .ok (.getfield 42, 3) := by decide +kernel
theorem d_TypeFinder_Tokens_put_4 : decode b_TypeFinder_Tokens_put 4 = .ok (.aload_n 0, 1) := by decide +kernel
theorem d_TypeFinder_Tokens_put_5 : decode b_TypeFinder_Tokens_put 5 = .ok (.getfield 9, 3) := by decide +kernel
theorem d_TypeFinder_Tokens_put_8 : decode b_TypeFinder_Tokens_put 8 = .ok (.arraylength, 1) := by decide +kernel
theorem d_TypeFinder_Tokens_put_9 : decode b_TypeFinder_Tokens_put 9 = .ok (.if_icmp .lt 11, 3) := by decide +kernel
theorem d_TypeFinder_Tokens_put_20 : decode b_TypeFinder_Tokens_put 20 = .ok (.aload_n 0, 1) := by decide +kernel
theorem d_TypeFinder_Tokens_put_21 : decode b_TypeFinder_Tokens_put 21 = .ok (.getfield 9, 3) := by decide +kernel
theorem d_TypeFinder_Tokens_put_24 : decode b_TypeFinder_Tokens_put 24 = .ok (.aload_n 0, 1) := by decide +kernel
theorem d_TypeFinder_Tokens_put_25 : decode b_TypeFinder_Tokens_put 25 = .ok (.getfield 42, 3) := by decide +kernel
theorem d_TypeFinder_Tokens_put_28 : decode b_TypeFinder_Tokens_put 28 = .ok (.iload_n 1, 1) := by decide +kernel
theorem d_TypeFinder_Tokens_put_29 : decode b_TypeFinder_Tokens_put 29 = .ok (.iastore, 1) := by decide +kernel
theorem d_TypeFinder_Tokens_put_30 : decode b_TypeFinder_Tokens_put 30 = .ok (.aload_n 0, 1) := by decide +kernel
theorem d_TypeFinder_Tokens_put_31 : decode b_TypeFinder_Tokens_put 31 = .ok (.getfield 15, 3) := by decide +kernel
theorem d_TypeFinder_Tokens_put_34 : decode b_TypeFinder_Tokens_put 34 = .ok (.aload_n 0, 1) := by decide +kernel
theorem d_TypeFinder_Tokens_put_35 : decode b_TypeFinder_Tokens_put 35 = .ok (.getfield 42, 3) := by decide +kernel
theorem d_TypeFinder_Tokens_put_38 : decode b_TypeFinder_Tokens_put 38 = .ok (.lload_n 2, 1) := by decide +kernel
theorem d_TypeFinder_Tokens_put_39 : decode b_TypeFinder_Tokens_put 39 = .ok (.lastore, 1) := by decide +kernel
theorem d_TypeFinder_Tokens_put_40 : decode b_TypeFinder_Tokens_put 40 = .ok (.aload_n 0, 1) := by decide +kernel
theorem d_TypeFinder_Tokens_put_41 : decode b_TypeFinder_Tokens_put 41 = .ok (.dup, 1) := by decide +kernel
theorem d_TypeFinder_Tokens_put_42 : decode b_TypeFinder_Tokens_put 42 = .ok (.getfield 42, 3) := by decide +kernel
theorem d_TypeFinder_Tokens_put_45 : decode b_TypeFinder_Tokens_put 45 = .ok (.iconst 1, 1) := by decide +kernel
theorem d_TypeFinder_Tokens_put_46 : decode b_TypeFinder_Tokens_put 46 = .ok (.iadd, 1) := by decide +kernel
theorem d_TypeFinder_Tokens_put_47 : decode b_TypeFinder_Tokens_put 47 = .ok (.putfield 42, 3) := by decide +kernel
theorem d_TypeFinder_Tokens_put_50 : decode b_TypeFinder_Tokens_put 50 = .ok (.return_, 1) := by decide +kernel
theorem d_TypeFinder_Tokens_read_0 : decode b_TypeFinder_Tokens_read 0 = .ok (.aload_n 0, 1) := by decide +kernel
theorem d_TypeFinder_Tokens_read_1 : decode b_TypeFinder_Tokens_read 1 = .ok (.iconst 0, 1) := by decide +kernel
theorem d_TypeFinder_Tokens_read_2 : decode b_TypeFinder_Tokens_read 2 = .ok (.putfield 42, 3) := by decide +kernel
theorem d_TypeFinder_Tokens_read_5 : decode b_TypeFinder_Tokens_read 5 = .ok (.aload_n 0, 1) := by decide +kernel
theorem d_TypeFinder_Tokens_read_6 : decode b_TypeFinder_Tokens_read 6 = .ok (.iconst 0, 1) := by decide +kernel
theorem d_TypeFinder_Tokens_read_7 : decode b_TypeFinder_Tokens_read 7 = .ok (.putfield 46, 3) := by decide +kernel
theorem d_TypeFinder_Tokens_read_10 : decode b_TypeFinder_Tokens_read 10 = .ok (.iconst 0, 1) := by decide +kernel
theorem d_TypeFinder_Tokens_read_11 : decode b_TypeFinder_Tokens_read 11 = .ok (.istore_n 3, 1) := by decide +kernel
theorem d_TypeFinder_Tokens_read_12 : decode b_TypeFinder_Tokens_read 12 = .ok (.iconst 0, 1) := by decide +kernel
theorem d_TypeFinder_Tokens_read_13 : decode b_TypeFinder_Tokens_read 13 = .ok (.istore 4, 2) := by decide +kernel
theorem d_TypeFinder_Tokens_read_15 : decode b_TypeFinder_Tokens_read 15 = .ok (.iload 4, 2) := by decide +kernel
theorem d_TypeFinder_Tokens_read_17 : decode b_TypeFinder_Tokens_read 17 = .ok (.iload_n 2, 1) := by decide +kernel
theorem d_TypeFinder_Tokens_read_18 : decode b_TypeFinder_Tokens_read 18 = .ok (.if_icmp .ge 115, 3) := by decide +kernel
theorem d_TypeFinder_Tokens_read_133 : decode b_TypeFinder_Tokens_read 133 = .ok (.aload_n 0, 1) := by decide +kernel
theorem d_TypeFinder_Tokens_read_134 : decode b_TypeFinder_Tokens_read 134 = .ok (.iconst 0, 1) := by decide +kernel
theorem d_TypeFinder_Tokens_read_135 : decode b_TypeFinder_Tokens_read 135 = .ok (.lconst 0, 1) := by decide +kernel
theorem d_TypeFinder_Tokens_read_136 : decode b_TypeFinder_Tokens_read 136 = .ok (.invokevirtual 63, 3) := by decide +kernel
theorem d_TypeFinder_Tokens_read_139 : decode b_TypeFinder_Tokens_read 139 = .ok (.return_, 1) := by decide +kernel
theorem d_TypeFinder_Tokens_take_0 : decode b_TypeFinder_Tokens_take 0 = .ok (.aload_n 0, 1) := by decide +kernel
theorem d_TypeFinder_Tokens_take_1 : decode b_TypeFinder_Tokens_take 1 = .ok (.getfield 9, 3) := by decide +kernel
theorem d_TypeFinder_Tokens_take_4 : decode b_TypeFinder_Tokens_take 4 = .ok (.aload_n 0, 1) := by decide +kernel
theorem d_TypeFinder_Tokens_take_5 : decode b_TypeFinder_Tokens_take 5 = .ok (.getfield 46, 3) := by decide +kernel
theorem d_TypeFinder_Tokens_take_8 : decode b_TypeFinder_Tokens_take 8 = .ok (.iaload, 1) := by decide +kernel
theorem d_TypeFinder_Tokens_take_9 : decode b_TypeFinder_Tokens_take 9 = .ok (.iload_n 1, 1) := by decide +kernel
theorem d_TypeFinder_Tokens_take_10 : decode b_TypeFinder_Tokens_take 10 = .ok (.if_icmp .eq 11, 3) := by decide +kernel
theorem d_TypeFinder_Tokens_take_13 : decode b_TypeFinder_Tokens_take 13 = .ok (.new 74, 3) := by decide +kernel
theorem d_TypeFinder_Tokens_take_16 : decode b_TypeFinder_Tokens_take 16 = .ok (.dup, 1) := by decide +kernel
theorem d_TypeFinder_Tokens_take_17 : decode b_TypeFinder_Tokens_take 17 = .ok (.invokespecial 76, 3) := by decide +kernel
theorem d_TypeFinder_Tokens_take_20 : decode b_TypeFinder_Tokens_take 20 = .ok (.athrow, 1) := by decide +kernel
theorem d_TypeFinder_Type_init_0 : decode b_TypeFinder_Type_init 0 = .ok (.aload_n 0, 1) := by decide +kernel
theorem d_TypeFinder_Type_init_1 : decode b_TypeFinder_Type_init 1 = .ok (.invokespecial 1, 3) := by decide +kernel
theorem d_TypeFinder_Type_init_4 : decode b_TypeFinder_Type_init 4 = .ok (.aload_n 0, 1) := by decide +kernel
theorem d_TypeFinder_Type_init_5 : decode b_TypeFinder_Type_init 5 = .ok (.iload_n 1, 1) := by decide +kernel
theorem d_TypeFinder_Type_init_6 : decode b_TypeFinder_Type_init 6 = .ok (.putfield 9, 3) := by decide +kernel
theorem d_TypeFinder_Type_init_9 : decode b_TypeFinder_Type_init 9 = .ok (.aload_n 0, 1) := by decide +kernel
theorem d_TypeFinder_Type_init_10 : decode b_TypeFinder_Type_init 10 = .ok (.aload_n 2, 1) := by decide +kernel
theorem d_TypeFinder_Type_init_11 : decode b_TypeFinder_Type_init 11 = .ok (.putfield 13, 3) := by decide +kernel
theorem d_TypeFinder_Type_init_14 : decode b_TypeFinder_Type_init 14 = .ok (.aload_n 0, 1) := by decide +kernel
theorem d_TypeFinder_Type_init_15 : decode b_TypeFinder_Type_init 15 = .ok (.aload_n 3, 1) := by decide +kernel
theorem d_TypeFinder_Type_init_16 : decode b_TypeFinder_Type_init 16 = .ok (.putfield 17, 3) := by decide +kernel
theorem d_TypeFinder_Type_init_19 : decode b_TypeFinder_Type_init 19 = .ok (.aload_n 0, 1) := by decide +kernel
theorem d_TypeFinder_Type_init_20 : decode b_TypeFinder_Type_init 20 = .ok (.aload 4, 2) := by decide +kernel
theorem d_TypeFinder_Type_init_22 : decode b_TypeFinder_Type_init 22 = .ok (.putfield 21, 3) := by decide +kernel
theorem d_TypeFinder_Type_init_25 : decode b_TypeFinder_Type_init 25 = .ok (.return_, 1) := by decide +kernel
theorem d_TypeFinder_Unifier_function_0 : decode b_TypeFinder_Unifier_function 0 = .ok (.new 22, 3) := by decide +kernel
theorem d_TypeFinder_Unifier_function_3 : decode b_TypeFinder_Unifier_function 3 = .ok (.dup, 1) := by decide +kernel
theorem d_TypeFinder_Unifier_function_4 : decode b_TypeFinder_Unifier_function 4 = .ok (.iconst 1, 1) := by decide +kernel
theorem d_TypeFinder_Unifier_function_5 : decode b_TypeFinder_Unifier_function 5 = .ok (.aconst_null, 1) := by decide +kernel
theorem d_TypeFinder_Unifier_function_6 : decode b_TypeFinder_Unifier_function 6 = .ok (.aload_n 0, 1) := by decide +kernel
theorem d_TypeFinder_Unifier_function_7 : decode b_TypeFinder_Unifier_function 7 = .ok (.aload_n 1, 1) := by decide +kernel
theorem d_TypeFinder_Unifier_function_8 : decode b_TypeFinder_Unifier_function 8 = .ok (.invokespecial 24, 3) := by decide +kernel
theorem d_TypeFinder_Unifier_function_11 : decode b_TypeFinder_Unifier_function 11 = .ok (.areturn, 1) := by decide +kernel
theorem d_TypeFinder_Unifier_init_0 : decode b_TypeFinder_Unifier_init 0 = .ok (.aload_n 0, 1) := by decide +kernel
theorem d_TypeFinder_Unifier_init_1 : decode b_TypeFinder_Unifier_init 1 = .ok (.invokespecial 1, 3) := by decide +kernel
