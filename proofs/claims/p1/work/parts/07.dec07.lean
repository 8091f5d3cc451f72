theorem d_TypeFinderModel_setName_51 : decode b_TypeFinderModel_setName 51 = .ok (.aload_n 0, 1) := by decide +kernel
theorem d_TypeFinderModel_setName_52 : decode b_TypeFinderModel_setName 52 = .ok (.getfield 36, 3) := by decide +kernel
theorem d_TypeFinderModel_setName_55 : decode b_TypeFinderModel_setName 55 = .ok (.bipush 24, 2) := by decide +kernel
theorem d_TypeFinderModel_setName_57 : decode b_TypeFinderModel_setName 57 = .ok (.iload_n 1, 1) := by decide +kernel
theorem d_TypeFinderModel_setName_58 : decode b_TypeFinderModel_setName 58 = .ok (.imul, 1) := by decide +kernel
theorem d_TypeFinderModel_setName_59 : decode b_TypeFinderModel_setName 59 = .ok (.iconst 3, 1) := by decide +kernel
theorem d_TypeFinderModel_setName_60 : decode b_TypeFinderModel_setName 60 = .ok (.iadd, 1) := by decide +kernel
theorem d_TypeFinderModel_setName_61 : decode b_TypeFinderModel_setName 61 = .ok (.iload 5, 2) := by decide +kernel
theorem d_TypeFinderModel_setName_63 : decode b_TypeFinderModel_setName 63 = .ok (.iastore, 1) := by decide +kernel
theorem d_TypeFinderModel_setName_64 : decode b_TypeFinderModel_setName 64 = .ok (.aload_n 0, 1) := by decide +kernel
theorem d_TypeFinderModel_setName_65 : decode b_TypeFinderModel_setName 65 = .ok (.getfield 36, 3) := by decide +kernel
theorem d_TypeFinderModel_setName_68 : decode b_TypeFinderModel_setName 68 = .ok (.bipush 24, 2) := by decide +kernel
theorem d_TypeFinderModel_setName_70 : decode b_TypeFinderModel_setName 70 = .ok (.iload_n 1, 1) := by decide +kernel
theorem d_TypeFinderModel_setName_71 : decode b_TypeFinderModel_setName 71 = .ok (.imul, 1) := by decide +kernel
theorem d_TypeFinderModel_setName_72 : decode b_TypeFinderModel_setName 72 = .ok (.iconst 4, 1) := by decide +kernel
theorem d_TypeFinderModel_setName_73 : decode b_TypeFinderModel_setName 73 = .ok (.iadd, 1) := by decide +kernel
theorem d_TypeFinderModel_setName_74 : decode b_TypeFinderModel_setName 74 = .ok (.iload 6, 2) := by decide +kernel
theorem d_TypeFinderModel_setName_76 : decode b_TypeFinderModel_setName 76 = .ok (.iastore, 1) := by decide +kernel
theorem d_TypeFinderModel_setName_77 : decode b_TypeFinderModel_setName 77 = .ok (.return_, 1) := by decide +kernel
theorem d_TypeFinderModel_split_0 : decode b_TypeFinderModel_split 0 = .ok (.aload_n 0, 1) := by decide +kernel
theorem d_TypeFinderModel_split_1 : decode b_TypeFinderModel_split 1 = .ok (.iconst 0, 1) := by decide +kernel
theorem d_TypeFinderModel_split_2 : decode b_TypeFinderModel_split 2 = .ok (.putfield 196, 3) := by decide +kernel
theorem d_TypeFinderModel_split_5 : decode b_TypeFinderModel_split 5 = .ok (.aload_n 0, 1) := by decide +kernel
theorem d_TypeFinderModel_split_6 : decode b_TypeFinderModel_split 6 = .ok (.iconst 0, 1) := by decide +kernel
theorem d_TypeFinderModel_split_7 : decode b_TypeFinderModel_split 7 = .ok (.putfield 230, 3) := by decide +kernel
theorem d_TypeFinderModel_split_10 : decode b_TypeFinderModel_split 10 = .ok (.iconst 0, 1) := by decide +kernel
theorem d_TypeFinderModel_split_11 : decode b_TypeFinderModel_split 11 = .ok (.istore_n 1, 1) := by decide +kernel
theorem d_TypeFinderModel_split_12 : decode b_TypeFinderModel_split 12 = .ok (.iload_n 1, 1) := by decide +kernel
theorem d_TypeFinderModel_split_13 : decode b_TypeFinderModel_split 13 = .ok (.aload_n 0, 1) := by decide +kernel
theorem d_TypeFinderModel_split_14 : decode b_TypeFinderModel_split 14 = .ok (.getfield 193, 3) := by decide +kernel
theorem d_TypeFinderModel_split_17 : decode b_TypeFinderModel_split 17 = .ok (.if_icmp .ge 145, 3) := by decide +kernel
theorem d_TypeFinderModel_split_162 : decode b_TypeFinderModel_split 162 = .ok (.aload_n 0, 1) := by decide +kernel
theorem d_TypeFinderModel_split_163 : decode b_TypeFinderModel_split 163 = .ok (.iconst 0, 1) := by decide +kernel
theorem d_TypeFinderModel_split_164 : decode b_TypeFinderModel_split 164 = .ok (.iconst 0, 1) := by decide +kernel
theorem d_TypeFinderModel_split_165 : decode b_TypeFinderModel_split 165 = .ok (.invokevirtual 237, 3) := by decide +kernel
theorem d_TypeFinderModel_split_168 : decode b_TypeFinderModel_split 168 = .ok (.aload_n 0, 1) := by decide +kernel
theorem d_TypeFinderModel_split_169 : decode b_TypeFinderModel_split 169 = .ok (.iconst 0, 1) := by decide +kernel
theorem d_TypeFinderModel_split_170 : decode b_TypeFinderModel_split 170 = .ok (.putfield 193, 3) := by decide +kernel
theorem d_TypeFinderModel_split_173 : decode b_TypeFinderModel_split 173 = .ok (.aload_n 0, 1) := by decide +kernel
theorem d_TypeFinderModel_split_174 : decode b_TypeFinderModel_split 174 = .ok (.iconst 0, 1) := by decide +kernel
theorem d_TypeFinderModel_split_175 : decode b_TypeFinderModel_split 175 = .ok (.putfield 256, 3) := by decide +kernel
theorem d_TypeFinderModel_split_178 : decode b_TypeFinderModel_split 178 = .ok (.return_, 1) := by decide +kernel
theorem d_TypeFinderModel_within_0 : decode b_TypeFinderModel_within 0 = .ok (.aload_n 0, 1) := by decide +kernel
theorem d_TypeFinderModel_within_1 : decode b_TypeFinderModel_within 1 = .ok (.iload_n 1, 1) := by decide +kernel
theorem d_TypeFinderModel_within_2 : decode b_TypeFinderModel_within 2 = .ok (.bipush 9, 2) := by decide +kernel
theorem d_TypeFinderModel_within_4 : decode b_TypeFinderModel_within 4 = .ok (.if_icmp .ne 7, 3) := by decide +kernel
theorem d_TypeFinderModel_within_7 : decode b_TypeFinderModel_within 7 = .ok (.iconst 1, 1) := by decide +kernel
theorem d_TypeFinderModel_within_8 : decode b_TypeFinderModel_within 8 = .ok (.goto 4, 3) := by decide +kernel
theorem d_TypeFinderModel_within_12 : decode b_TypeFinderModel_within 12 = .ok (.putfield 283, 3) := by decide +kernel
theorem d_TypeFinderModel_within_15 : decode b_TypeFinderModel_within 15 = .ok (.aload_n 0, 1) := by decide +kernel
theorem d_TypeFinderModel_within_16 : decode b_TypeFinderModel_within 16 = .ok (.aload_n 0, 1) := by decide +kernel
theorem d_TypeFinderModel_within_17 : decode b_TypeFinderModel_within 17 = .ok (.getfield 84, 3) := by decide +kernel
theorem d_TypeFinderModel_within_20 : decode b_TypeFinderModel_within 20 = .ok (.aload_n 0, 1) := by decide +kernel
theorem d_TypeFinderModel_within_21 : decode b_TypeFinderModel_within 21 = .ok (.getfield 274, 3) := by decide +kernel
theorem d_TypeFinderModel_within_24 : decode b_TypeFinderModel_within 24 = .ok (.iconst 1, 1) := by decide +kernel
theorem d_TypeFinderModel_within_25 : decode b_TypeFinderModel_within 25 = .ok (.isub, 1) := by decide +kernel
theorem d_TypeFinderModel_within_26 : decode b_TypeFinderModel_within 26 = .ok (.iaload, 1) := by decide +kernel
theorem d_TypeFinderModel_within_27 : decode b_TypeFinderModel_within 27 = .ok (.iload_n 1, 1) := by decide +kernel
theorem d_TypeFinderModel_within_28 : decode b_TypeFinderModel_within 28 = .ok (.bipush 9, 2) := by decide +kernel
theorem d_TypeFinderModel_within_30 : decode b_TypeFinderModel_within 30 = .ok (.if_icmp .ne 7, 3) := by decide +kernel
theorem d_TypeFinderModel_within_33 : decode b_TypeFinderModel_within 33 = .ok (.iconst 0, 1) := by decide +kernel
theorem d_TypeFinderModel_within_34 : decode b_TypeFinderModel_within 34 = .ok (.goto 4, 3) := by decide +kernel
theorem d_TypeFinderModel_within_38 : decode b_TypeFinderModel_within 38 = .ok (.iadd, 1) := by decide +kernel
theorem d_TypeFinderModel_within_39 : decode b_TypeFinderModel_within 39 = .ok (.putfield 277, 3) := by decide +kernel
theorem d_TypeFinderModel_within_42 : decode b_TypeFinderModel_within 42 = .ok (.return_, 1) := by decide +kernel
theorem d_TypeFinderModel_wordOf_0 : decode b_TypeFinderModel_wordOf 0 = .ok (.iconst 0, 1) := by decide +kernel
theorem d_TypeFinderModel_wordOf_1 : decode b_TypeFinderModel_wordOf 1 = .ok (.istore_n 2, 1) := by decide +kernel
theorem d_TypeFinderModel_wordOf_2 : decode b_TypeFinderModel_wordOf 2 = .ok (.iconst 0, 1) := by decide +kernel
theorem d_TypeFinderModel_wordOf_3 : decode b_TypeFinderModel_wordOf 3 = .ok (.istore_n 3, 1) := by decide +kernel
theorem d_TypeFinderModel_wordOf_4 : decode b_TypeFinderModel_wordOf 4 = .ok (.iload_n 3, 1) := by decide +kernel
theorem d_TypeFinderModel_wordOf_5 : decode b_TypeFinderModel_wordOf 5 = .ok (.bipush 6, 2) := by decide +kernel
theorem d_TypeFinderModel_wordOf_7 : decode b_TypeFinderModel_wordOf 7 = .ok (.if_icmp .ge 41, 3) := by decide +kernel
theorem d_TypeFinderModel_wordOf_10 : decode b_TypeFinderModel_wordOf 10 = .ok (.lload_n 0, 1) := by decide +kernel
theorem d_TypeFinderModel_wordOf_11 : decode b_TypeFinderModel_wordOf 11 = .ok (.bipush 8, 2) := by decide +kernel
theorem d_TypeFinderModel_wordOf_13 : decode b_TypeFinderModel_wordOf 13 = .ok (.iload_n 3, 1) := by decide +kernel
theorem d_TypeFinderModel_wordOf_14 : decode b_TypeFinderModel_wordOf 14 = .ok (.imul, 1) := by decide +kernel
theorem d_TypeFinderModel_wordOf_15 : decode b_TypeFinderModel_wordOf 15 = .ok (.lushr, 1) := by decide +kernel
theorem d_TypeFinderModel_wordOf_16 : decode b_TypeFinderModel_wordOf 16 = .ok (.ldc2_w 186, 3) := by decide +kernel
theorem d_TypeFinderModel_wordOf_19 : decode b_TypeFinderModel_wordOf 19 = .ok (.land, 1) := by decide +kernel
theorem d_TypeFinderModel_wordOf_20 : decode b_TypeFinderModel_wordOf 20 = .ok (.lconst 0, 1) := by decide +kernel
theorem d_TypeFinderModel_wordOf_21 : decode b_TypeFinderModel_wordOf 21 = .ok (.lcmp, 1) := by decide +kernel
theorem d_TypeFinderModel_wordOf_22 : decode b_TypeFinderModel_wordOf 22 = .ok (.ifCond .eq 26, 3) := by decide +kernel
theorem d_TypeFinderModel_wordOf_25 : decode b_TypeFinderModel_wordOf 25 = .ok (.bipush 27, 2) := by decide +kernel
theorem d_TypeFinderModel_wordOf_27 : decode b_TypeFinderModel_wordOf 27 = .ok (.iload_n 2, 1) := by decide +kernel
theorem d_TypeFinderModel_wordOf_28 : decode b_TypeFinderModel_wordOf 28 = .ok (.imul, 1) := by decide +kernel
theorem d_TypeFinderModel_wordOf_29 : decode b_TypeFinderModel_wordOf 29 = .ok (.lload_n 0, 1) := by decide +kernel
theorem d_TypeFinderModel_wordOf_30 : decode b_TypeFinderModel_wordOf 30 = .ok (.bipush 8, 2) := by decide +kernel
theorem d_TypeFinderModel_wordOf_32 : decode b_TypeFinderModel_wordOf 32 = .ok (.iload_n 3, 1) := by decide +kernel
theorem d_TypeFinderModel_wordOf_33 : decode b_TypeFinderModel_wordOf 33 = .ok (.imul, 1) := by decide +kernel
theorem d_TypeFinderModel_wordOf_34 : decode b_TypeFinderModel_wordOf 34 = .ok (.lushr, 1) := by decide +kernel
theorem d_TypeFinderModel_wordOf_35 : decode b_TypeFinderModel_wordOf 35 = .ok (.ldc2_w 188, 3) := by decide +kernel
theorem d_TypeFinderModel_wordOf_38 : decode b_TypeFinderModel_wordOf 38 = .ok (.land, 1) := by decide +kernel
theorem d_TypeFinderModel_wordOf_39 : decode b_TypeFinderModel_wordOf 39 = .ok (.l2i, 1) := by decide +kernel
theorem d_TypeFinderModel_wordOf_40 : decode b_TypeFinderModel_wordOf 40 = .ok (.iadd, 1) := by decide +kernel
theorem d_TypeFinderModel_wordOf_41 : decode b_TypeFinderModel_wordOf 41 = .ok (.istore_n 2, 1) := by decide +kernel
theorem d_TypeFinderModel_wordOf_42 : decode b_TypeFinderModel_wordOf 42 = .ok (.iinc 3 1, 3) := by decide +kernel
theorem d_TypeFinderModel_wordOf_45 : decode b_TypeFinderModel_wordOf 45 = .ok (.goto (-41), 3) := by decide +kernel
theorem d_TypeFinderModel_wordOf_48 : decode b_TypeFinderModel_wordOf 48 = .ok (.iload_n 2, 1) := by decide +kernel
theorem d_TypeFinderModel_wordOf_49 : decode b_TypeFinderModel_wordOf 49 = .ok (.ireturn, 1) := by decide +kernel
theorem d_TypeFinder_Checker_init_0 : decode b_TypeFinder_Checker_init 0 = .ok (.aload_n 0, 1) := by decide +kernel
theorem d_TypeFinder_Checker_init_1 : decode b_TypeFinder_Checker_init 1 = .ok (.invokespecial 3, 3) := by decide +kernel
theorem d_TypeFinder_Checker_init_4 : decode b_TypeFinder_Checker_init 4 = .ok (.aload_n 0, 1) := by decide +kernel
theorem d_TypeFinder_Checker_init_5 : decode b_TypeFinder_Checker_init 5 = .ok (.new 9, 3) := by decide +kernel
theorem d_TypeFinder_Checker_init_8 : decode b_TypeFinder_Checker_init 8 = .ok (.dup, 1) := by decide +kernel
theorem d_TypeFinder_Checker_init_9 : decode b_TypeFinder_Checker_init 9 = .ok (.invokespecial 11, 3) := by decide +kernel
theorem d_TypeFinder_Checker_init_12 : decode b_TypeFinder_Checker_init 12 = .ok (.putfield 12, 3) := by decide +kernel
theorem d_TypeFinder_Checker_init_15 : decode b_TypeFinder_Checker_init 15 = .ok (.aload_n 0, 1) := by decide +kernel
theorem d_TypeFinder_Checker_init_16 : decode b_TypeFinder_Checker_init 16 = .ok (.new 18, 3) := by decide +kernel
theorem d_TypeFinder_Checker_init_19 : decode b_TypeFinder_Checker_init 19 = .ok (.dup, 1) := by decide +kernel
theorem d_TypeFinder_Checker_init_20 : decode b_TypeFinder_Checker_init 20 = .ok (.invokespecial 20, 3) := by decide +kernel
theorem d_TypeFinder_Checker_init_23 : decode b_TypeFinder_Checker_init 23 = .ok (.putfield 21, 3) := by decide +kernel
theorem d_TypeFinder_Checker_init_26 : decode b_TypeFinder_Checker_init 26 = .ok (.aload_n 0, 1) := by decide +kernel
theorem d_TypeFinder_Checker_init_27 : decode b_TypeFinder_Checker_init 27 = .ok (.new 18, 3) := by decide +kernel
theorem d_TypeFinder_Checker_init_30 : decode b_TypeFinder_Checker_init 30 = .ok (.dup, 1) := by decide +kernel
theorem d_TypeFinder_Checker_init_31 : decode b_TypeFinder_Checker_init 31 = .ok (.invokespecial 20, 3) := by decide +kernel
theorem d_TypeFinder_Checker_init_34 : decode b_TypeFinder_Checker_init 34 = .ok (.putfield 25, 3) := by decide +kernel
theorem d_TypeFinder_Checker_init_37 : decode b_TypeFinder_Checker_init 37 = .ok (.aload_n 0, 1) := by decide +kernel
theorem d_TypeFinder_Checker_init_38 : decode b_TypeFinder_Checker_init 38 = .ok (.aload_n 1, 1) := by decide +kernel
theorem d_TypeFinder_Checker_init_39 : decode b_TypeFinder_Checker_init 39 = .ok (.putfield 28, 3) := by decide +kernel
theorem d_TypeFinder_Checker_init_42 : decode b_TypeFinder_Checker_init 42 = .ok (.return_, 1) := by decide +kernel
theorem d_TypeFinder_DataParser_init_0 : decode b_TypeFinder_DataParser_init 0 = .ok (.aload_n 0, 1) := by decide +kernel
theorem d_TypeFinder_DataParser_init_1 : decode b_TypeFinder_DataParser_init 1 = .ok (.invokespecial 3, 3) := by decide +kernel
theorem d_TypeFinder_DataParser_init_4 : decode b_TypeFinder_DataParser_init 4 = .ok (.aload_n 0, 1) := by decide +kernel
theorem d_TypeFinder_DataParser_init_5 : decode b_TypeFinder_DataParser_init 5 = .ok (.aload_n 1, 1) := by decide +kernel
theorem d_TypeFinder_DataParser_init_6 : decode b_TypeFinder_DataParser_init 6 = .ok (.putfield 9, 3) := by decide +kernel
theorem d_TypeFinder_DataParser_init_9 : decode b_TypeFinder_DataParser_init 9 = .ok (.return_, 1) := by decide +kernel
theorem d_TypeFinder_DataType_init_0 : decode b_TypeFinder_DataType_init 0 = .ok (.aload_n 0, 1) := by decide +kernel
theorem d_TypeFinder_DataType_init_1 : decode b_TypeFinder_DataType_init 1 = .ok (.invokespecial 1, 3) := by decide +kernel
theorem d_TypeFinder_DataType_init_4 : decode b_TypeFinder_DataType_init 4 = .ok (.aload_n 0, 1) := by decide +kernel
theorem d_TypeFinder_DataType_init_5 : decode b_TypeFinder_DataType_init 5 = .ok (.new 7, 3) := by decide +kernel
theorem d_TypeFinder_DataType_init_8 : decode b_TypeFinder_DataType_init 8 = .ok (.dup, 1) := by decide +kernel
theorem d_TypeFinder_DataType_init_9 : decode b_TypeFinder_DataType_init 9 = .ok (.invokespecial 9, 3) := by decide +kernel
theorem d_TypeFinder_DataType_init_12 : decode b_TypeFinder_DataType_init 12 = .ok (.putfield 10, 3) := by decide +kernel
theorem d_TypeFinder_DataType_init_15 : decode b_TypeFinder_DataType_init 15 = .ok (.aload_n 0, 1) := by decide +kernel
theorem d_TypeFinder_DataType_init_16 : decode b_TypeFinder_DataType_init 16 = .ok (.iconst 1, 1) := by decide +kernel
theorem d_TypeFinder_DataType_init_17 : decode b_TypeFinder_DataType_init 17 = .ok (.putfield 16, 3) := by decide +kernel
theorem d_TypeFinder_DataType_init_20 : decode b_TypeFinder_DataType_init 20 = .ok (.aload_n 0, 1) := by decide +kernel
theorem d_TypeFinder_DataType_init_21 : decode b_TypeFinder_DataType_init 21 = .ok (.lload_n 1, 1) := by decide +kernel
theorem d_TypeFinder_DataType_init_22 : decode b_TypeFinder_DataType_init 22 = .ok (.putfield 20, 3) := by decide +kernel
theorem d_TypeFinder_DataType_init_25 : decode b_TypeFinder_DataType_init 25 = .ok (.aload_n 0, 1) := by decide +kernel
theorem d_TypeFinder_DataType_init_26 : decode b_TypeFinder_DataType_init 26 = .ok (.iload_n 3, 1) := by decide +kernel
theorem d_TypeFinder_DataType_init_27 : decode b_TypeFinder_DataType_init 27 = .ok (.putfield 24, 3) := by decide +kernel
theorem d_TypeFinder_DataType_init_30 : decode b_TypeFinder_DataType_init 30 = .ok (.return_, 1) := by decide +kernel
theorem d_TypeFinder_DataType_made_0 : decode b_TypeFinder_DataType_made 0 = .ok (.new 11, 3) := by decide +kernel
theorem d_TypeFinder_DataType_made_3 : decode b_TypeFinder_DataType_made 3 = .ok (.dup, 1) := by decide +kernel
theorem d_TypeFinder_DataType_made_4 : decode b_TypeFinder_DataType_made 4 = .ok (.lload_n 0, 1) := by decide +kernel
theorem d_TypeFinder_DataType_made_5 : decode b_TypeFinder_DataType_made 5 = .ok (.iload_n 2, 1) := by decide +kernel
theorem d_TypeFinder_DataType_made_6 : decode b_TypeFinder_DataType_made 6 = .ok (.invokespecial 28, 3) := by decide +kernel
theorem d_TypeFinder_DataType_made_9 : decode b_TypeFinder_DataType_made 9 = .ok (.astore_n 3, 1) := by decide +kernel
theorem d_TypeFinder_DataType_made_10 : decode b_TypeFinder_DataType_made 10 = .ok (.iload_n 2, 1) := by decide +kernel
