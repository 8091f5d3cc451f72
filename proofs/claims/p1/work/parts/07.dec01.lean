theorem d_StringLatin1_charAt_3 : decode b_StringLatin1_charAt 3 = .ok (.invokestatic 9, 3) := by decide +kernel
theorem d_StringLatin1_charAt_6 : decode b_StringLatin1_charAt 6 = .ok (.aload_n 0, 1) := by decide +kernel
theorem d_StringLatin1_charAt_7 : decode b_StringLatin1_charAt 7 = .ok (.iload_n 1, 1) := by decide +kernel
theorem d_StringLatin1_charAt_8 : decode b_StringLatin1_charAt 8 = .ok (.baload, 1) := by decide +kernel
theorem d_StringLatin1_charAt_9 : decode b_StringLatin1_charAt 9 = .ok (.sipush 255, 3) := by decide +kernel
theorem d_StringLatin1_charAt_12 : decode b_StringLatin1_charAt 12 = .ok (.iand, 1) := by decide +kernel
theorem d_StringLatin1_charAt_13 : decode b_StringLatin1_charAt 13 = .ok (.i2c, 1) := by decide +kernel
theorem d_StringLatin1_charAt_14 : decode b_StringLatin1_charAt 14 = .ok (.ireturn, 1) := by decide +kernel
theorem d_StringLatin1_newString_0 : decode b_StringLatin1_newString 0 = .ok (.iload_n 2, 1) := by decide +kernel
theorem d_StringLatin1_newString_1 : decode b_StringLatin1_newString 1 = .ok (.ifCond .ne 6, 3) := by decide +kernel
theorem d_StringLatin1_newString_7 : decode b_StringLatin1_newString 7 = .ok (.new 1, 3) := by decide +kernel
theorem d_StringLatin1_newString_10 : decode b_StringLatin1_newString 10 = .ok (.dup, 1) := by decide +kernel
theorem d_StringLatin1_newString_11 : decode b_StringLatin1_newString 11 = .ok (.aload_n 0, 1) := by decide +kernel
theorem d_StringLatin1_newString_12 : decode b_StringLatin1_newString 12 = .ok (.iload_n 1, 1) := by decide +kernel
theorem d_StringLatin1_newString_13 : decode b_StringLatin1_newString 13 = .ok (.iload_n 1, 1) := by decide +kernel
theorem d_StringLatin1_newString_14 : decode b_StringLatin1_newString 14 = .ok (.iload_n 2, 1) := by decide +kernel
theorem d_StringLatin1_newString_15 : decode b_StringLatin1_newString 15 = .ok (.iadd, 1) := by decide +kernel
theorem d_StringLatin1_newString_16 : decode b_StringLatin1_newString 16 = .ok (.invokestatic 232, 3) := by decide +kernel
theorem d_StringLatin1_newString_19 : decode b_StringLatin1_newString 19 = .ok (.iconst 0, 1) := by decide +kernel
theorem d_StringLatin1_newString_20 : decode b_StringLatin1_newString 20 = .ok (.invokespecial 112, 3) := by decide +kernel
theorem d_StringLatin1_newString_23 : decode b_StringLatin1_newString 23 = .ok (.areturn, 1) := by decide +kernel
theorem d_String_charAt_0 : decode b_String_charAt 0 = .ok (.aload_n 0, 1) := by decide +kernel
theorem d_String_charAt_1 : decode b_String_charAt 1 = .ok (.invokevirtual 492, 3) := by decide +kernel
theorem d_String_charAt_4 : decode b_String_charAt 4 = .ok (.ifCond .eq 12, 3) := by decide +kernel
theorem d_String_charAt_7 : decode b_String_charAt 7 = .ok (.aload_n 0, 1) := by decide +kernel
theorem d_String_charAt_8 : decode b_String_charAt 8 = .ok (.getfield 9, 3) := by decide +kernel
theorem d_String_charAt_11 : decode b_String_charAt 11 = .ok (.iload_n 1, 1) := by decide +kernel
theorem d_String_charAt_12 : decode b_String_charAt 12 = .ok (.invokestatic 495, 3) := by decide +kernel
theorem d_String_charAt_15 : decode b_String_charAt 15 = .ok (.ireturn, 1) := by decide +kernel
theorem d_String_checkBoundsBeginEnd_0 : decode b_String_checkBoundsBeginEnd 0 = .ok (.iload_n 0, 1) := by decide +kernel
theorem d_String_checkBoundsBeginEnd_1 : decode b_String_checkBoundsBeginEnd 1 = .ok (.iload_n 1, 1) := by decide +kernel
theorem d_String_checkBoundsBeginEnd_2 : decode b_String_checkBoundsBeginEnd 2 = .ok (.iload_n 2, 1) := by decide +kernel
theorem d_String_checkBoundsBeginEnd_3 : decode b_String_checkBoundsBeginEnd 3 = .ok (.getstatic 1053, 3) := by decide +kernel
theorem d_String_checkBoundsBeginEnd_6 : decode b_String_checkBoundsBeginEnd 6 = .ok (.invokestatic 1062, 3) := by decide +kernel
theorem d_String_checkBoundsBeginEnd_9 : decode b_String_checkBoundsBeginEnd 9 = .ok (.pop, 1) := by decide +kernel
theorem d_String_checkBoundsBeginEnd_10 : decode b_String_checkBoundsBeginEnd 10 = .ok (.return_, 1) := by decide +kernel
theorem d_String_checkIndex_0 : decode b_String_checkIndex 0 = .ok (.iload_n 0, 1) := by decide +kernel
theorem d_String_checkIndex_1 : decode b_String_checkIndex 1 = .ok (.iload_n 1, 1) := by decide +kernel
theorem d_String_checkIndex_2 : decode b_String_checkIndex 2 = .ok (.getstatic 1053, 3) := by decide +kernel
theorem d_String_checkIndex_5 : decode b_String_checkIndex 5 = .ok (.invokestatic 1059, 3) := by decide +kernel
theorem d_String_checkIndex_8 : decode b_String_checkIndex 8 = .ok (.pop, 1) := by decide +kernel
theorem d_String_checkIndex_9 : decode b_String_checkIndex 9 = .ok (.return_, 1) := by decide +kernel
theorem d_String_coder_0 : decode b_String_coder 0 = .ok (.getstatic 38, 3) := by decide +kernel
theorem d_String_coder_3 : decode b_String_coder 3 = .ok (.ifCond .eq 10, 3) := by decide +kernel
theorem d_String_coder_6 : decode b_String_coder 6 = .ok (.aload_n 0, 1) := by decide +kernel
theorem d_String_coder_7 : decode b_String_coder 7 = .ok (.getfield 15, 3) := by decide +kernel
theorem d_String_coder_10 : decode b_String_coder 10 = .ok (.goto 4, 3) := by decide +kernel
theorem d_String_coder_14 : decode b_String_coder 14 = .ok (.ireturn, 1) := by decide +kernel
theorem d_String_init_0 : decode b_String_init 0 = .ok (.aload_n 0, 1) := by decide +kernel
theorem d_String_init_1 : decode b_String_init 1 = .ok (.invokespecial 1, 3) := by decide +kernel
theorem d_String_init_4 : decode b_String_init 4 = .ok (.aload_n 0, 1) := by decide +kernel
theorem d_String_init_5 : decode b_String_init 5 = .ok (.aload_n 1, 1) := by decide +kernel
theorem d_String_init_6 : decode b_String_init 6 = .ok (.putfield 9, 3) := by decide +kernel
theorem d_String_init_9 : decode b_String_init 9 = .ok (.aload_n 0, 1) := by decide +kernel
theorem d_String_init_10 : decode b_String_init 10 = .ok (.iload_n 2, 1) := by decide +kernel
theorem d_String_init_11 : decode b_String_init 11 = .ok (.putfield 15, 3) := by decide +kernel
theorem d_String_init_14 : decode b_String_init 14 = .ok (.return_, 1) := by decide +kernel
theorem d_String_isLatin1_0 : decode b_String_isLatin1 0 = .ok (.getstatic 38, 3) := by decide +kernel
theorem d_String_isLatin1_3 : decode b_String_isLatin1 3 = .ok (.ifCond .eq 14, 3) := by decide +kernel
theorem d_String_isLatin1_6 : decode b_String_isLatin1 6 = .ok (.aload_n 0, 1) := by decide +kernel
theorem d_String_isLatin1_7 : decode b_String_isLatin1 7 = .ok (.getfield 15, 3) := by decide +kernel
theorem d_String_isLatin1_10 : decode b_String_isLatin1 10 = .ok (.ifCond .ne 7, 3) := by decide +kernel
theorem d_String_isLatin1_13 : decode b_String_isLatin1 13 = .ok (.iconst 1, 1) := by decide +kernel
theorem d_String_isLatin1_14 : decode b_String_isLatin1 14 = .ok (.goto 4, 3) := by decide +kernel
theorem d_String_isLatin1_18 : decode b_String_isLatin1 18 = .ok (.ireturn, 1) := by decide +kernel
theorem d_String_length_0 : decode b_String_length 0 = .ok (.aload_n 0, 1) := by decide +kernel
theorem d_String_length_1 : decode b_String_length 1 = .ok (.getfield 9, 3) := by decide +kernel
theorem d_String_length_4 : decode b_String_length 4 = .ok (.arraylength, 1) := by decide +kernel
theorem d_String_length_5 : decode b_String_length 5 = .ok (.aload_n 0, 1) := by decide +kernel
theorem d_String_length_6 : decode b_String_length 6 = .ok (.invokevirtual 335, 3) := by decide +kernel
theorem d_String_length_9 : decode b_String_length 9 = .ok (.ishr, 1) := by decide +kernel
theorem d_String_length_10 : decode b_String_length 10 = .ok (.ireturn, 1) := by decide +kernel
theorem d_String_substring_0 : decode b_String_substring 0 = .ok (.aload_n 0, 1) := by decide +kernel
theorem d_String_substring_1 : decode b_String_substring 1 = .ok (.invokevirtual 505, 3) := by decide +kernel
theorem d_String_substring_4 : decode b_String_substring 4 = .ok (.istore_n 3, 1) := by decide +kernel
theorem d_String_substring_5 : decode b_String_substring 5 = .ok (.iload_n 1, 1) := by decide +kernel
theorem d_String_substring_6 : decode b_String_substring 6 = .ok (.iload_n 2, 1) := by decide +kernel
theorem d_String_substring_7 : decode b_String_substring 7 = .ok (.iload_n 3, 1) := by decide +kernel
theorem d_String_substring_8 : decode b_String_substring 8 = .ok (.invokestatic 521, 3) := by decide +kernel
theorem d_String_substring_11 : decode b_String_substring 11 = .ok (.iload_n 1, 1) := by decide +kernel
theorem d_String_substring_12 : decode b_String_substring 12 = .ok (.ifCond .ne 10, 3) := by decide +kernel
theorem d_String_substring_15 : decode b_String_substring 15 = .ok (.iload_n 2, 1) := by decide +kernel
theorem d_String_substring_16 : decode b_String_substring 16 = .ok (.iload_n 3, 1) := by decide +kernel
theorem d_String_substring_17 : decode b_String_substring 17 = .ok (.if_icmp .ne 5, 3) := by decide +kernel
theorem d_String_substring_22 : decode b_String_substring 22 = .ok (.iload_n 2, 1) := by decide +kernel
theorem d_String_substring_23 : decode b_String_substring 23 = .ok (.iload_n 1, 1) := by decide +kernel
theorem d_String_substring_24 : decode b_String_substring 24 = .ok (.isub, 1) := by decide +kernel
theorem d_String_substring_25 : decode b_String_substring 25 = .ok (.istore 4, 2) := by decide +kernel
theorem d_String_substring_27 : decode b_String_substring 27 = .ok (.aload_n 0, 1) := by decide +kernel
theorem d_String_substring_28 : decode b_String_substring 28 = .ok (.invokevirtual 492, 3) := by decide +kernel
theorem d_String_substring_31 : decode b_String_substring 31 = .ok (.ifCond .eq 16, 3) := by decide +kernel
theorem d_String_substring_34 : decode b_String_substring 34 = .ok (.aload_n 0, 1) := by decide +kernel
theorem d_String_substring_35 : decode b_String_substring 35 = .ok (.getfield 9, 3) := by decide +kernel
theorem d_String_substring_38 : decode b_String_substring 38 = .ok (.iload_n 1, 1) := by decide +kernel
theorem d_String_substring_39 : decode b_String_substring 39 = .ok (.iload 4, 2) := by decide +kernel
theorem d_String_substring_41 : decode b_String_substring 41 = .ok (.invokestatic 685, 3) := by decide +kernel
theorem d_String_substring_44 : decode b_String_substring 44 = .ok (.goto 13, 3) := by decide +kernel
theorem d_String_substring_57 : decode b_String_substring 57 = .ok (.areturn, 1) := by decide +kernel
theorem d_TypeFinderModel_ask_0 : decode b_TypeFinderModel_ask 0 = .ok (.aload_n 0, 1) := by decide +kernel
theorem d_TypeFinderModel_ask_1 : decode b_TypeFinderModel_ask 1 = .ok (.invokevirtual 501, 3) := by decide +kernel
theorem d_TypeFinderModel_ask_4 : decode b_TypeFinderModel_ask 4 = .ok (.ifCond .eq 6, 3) := by decide +kernel
theorem d_TypeFinderModel_ask_10 : decode b_TypeFinderModel_ask 10 = .ok (.aload_n 0, 1) := by decide +kernel
theorem d_TypeFinderModel_ask_11 : decode b_TypeFinderModel_ask 11 = .ok (.getfield 230, 3) := by decide +kernel
theorem d_TypeFinderModel_ask_14 : decode b_TypeFinderModel_ask 14 = .ok (.ifCond .ne 7, 3) := by decide +kernel
theorem d_TypeFinderModel_ask_17 : decode b_TypeFinderModel_ask 17 = .ok (.aload_n 0, 1) := by decide +kernel
theorem d_TypeFinderModel_ask_18 : decode b_TypeFinderModel_ask 18 = .ok (.invokevirtual 504, 3) := by decide +kernel
theorem d_TypeFinderModel_ask_21 : decode b_TypeFinderModel_ask 21 = .ok (.aload_n 0, 1) := by decide +kernel
theorem d_TypeFinderModel_ask_22 : decode b_TypeFinderModel_ask 22 = .ok (.getfield 230, 3) := by decide +kernel
theorem d_TypeFinderModel_ask_25 : decode b_TypeFinderModel_ask 25 = .ok (.ifCond .ne 10, 3) := by decide +kernel
theorem d_TypeFinderModel_ask_35 : decode b_TypeFinderModel_ask 35 = .ok (.aload_n 0, 1) := by decide +kernel
theorem d_TypeFinderModel_ask_36 : decode b_TypeFinderModel_ask 36 = .ok (.iconst 1, 1) := by decide +kernel
theorem d_TypeFinderModel_ask_37 : decode b_TypeFinderModel_ask 37 = .ok (.invokevirtual 507, 3) := by decide +kernel
theorem d_TypeFinderModel_ask_40 : decode b_TypeFinderModel_ask 40 = .ok (.ireturn, 1) := by decide +kernel
theorem d_TypeFinderModel_atom_0 : decode b_TypeFinderModel_atom 0 = .ok (.iload_n 1, 1) := by decide +kernel
theorem d_TypeFinderModel_atom_1 : decode b_TypeFinderModel_atom 1 = .ok (.iconst 3, 1) := by decide +kernel
theorem d_TypeFinderModel_atom_2 : decode b_TypeFinderModel_atom 2 = .ok (.if_icmp .eq 19, 3) := by decide +kernel
theorem d_TypeFinderModel_atom_5 : decode b_TypeFinderModel_atom 5 = .ok (.iload_n 1, 1) := by decide +kernel
theorem d_TypeFinderModel_atom_6 : decode b_TypeFinderModel_atom 6 = .ok (.iconst 1, 1) := by decide +kernel
theorem d_TypeFinderModel_atom_7 : decode b_TypeFinderModel_atom 7 = .ok (.if_icmp .eq 14, 3) := by decide +kernel
theorem d_TypeFinderModel_atom_10 : decode b_TypeFinderModel_atom 10 = .ok (.iload_n 1, 1) := by decide +kernel
theorem d_TypeFinderModel_atom_11 : decode b_TypeFinderModel_atom 11 = .ok (.iconst 2, 1) := by decide +kernel
theorem d_TypeFinderModel_atom_12 : decode b_TypeFinderModel_atom 12 = .ok (.if_icmp .eq 9, 3) := by decide +kernel
theorem d_TypeFinderModel_atom_15 : decode b_TypeFinderModel_atom 15 = .ok (.iload_n 1, 1) := by decide +kernel
theorem d_TypeFinderModel_atom_16 : decode b_TypeFinderModel_atom 16 = .ok (.bipush 22, 2) := by decide +kernel
theorem d_TypeFinderModel_atom_18 : decode b_TypeFinderModel_atom 18 = .ok (.if_icmp .ne 7, 3) := by decide +kernel
theorem d_TypeFinderModel_atom_25 : decode b_TypeFinderModel_atom 25 = .ok (.iconst 0, 1) := by decide +kernel
theorem d_TypeFinderModel_atom_26 : decode b_TypeFinderModel_atom 26 = .ok (.ireturn, 1) := by decide +kernel
theorem d_TypeFinderModel_begin_0 : decode b_TypeFinderModel_begin 0 = .ok (.aload_n 0, 1) := by decide +kernel
theorem d_TypeFinderModel_begin_1 : decode b_TypeFinderModel_begin 1 = .ok (.iconst 0, 1) := by decide +kernel
theorem d_TypeFinderModel_begin_2 : decode b_TypeFinderModel_begin 2 = .ok (.putfield 190, 3) := by decide +kernel
theorem d_TypeFinderModel_begin_5 : decode b_TypeFinderModel_begin 5 = .ok (.aload_n 0, 1) := by decide +kernel
theorem d_TypeFinderModel_begin_6 : decode b_TypeFinderModel_begin 6 = .ok (.getfield 495, 3) := by decide +kernel
theorem d_TypeFinderModel_begin_9 : decode b_TypeFinderModel_begin 9 = .ok (.bipush 60, 2) := by decide +kernel
theorem d_TypeFinderModel_begin_11 : decode b_TypeFinderModel_begin 11 = .ok (.if_icmp .lt 5, 3) := by decide +kernel
theorem d_TypeFinderModel_begin_16 : decode b_TypeFinderModel_begin 16 = .ok (.aload_n 0, 1) := by decide +kernel
theorem d_TypeFinderModel_begin_17 : decode b_TypeFinderModel_begin 17 = .ok (.invokevirtual 498, 3) := by decide +kernel
theorem d_TypeFinderModel_begin_20 : decode b_TypeFinderModel_begin 20 = .ok (.aload_n 0, 1) := by decide +kernel
theorem d_TypeFinderModel_begin_21 : decode b_TypeFinderModel_begin 21 = .ok (.iconst 0, 1) := by decide +kernel
theorem d_TypeFinderModel_begin_22 : decode b_TypeFinderModel_begin 22 = .ok (.putfield 271, 3) := by decide +kernel
theorem d_TypeFinderModel_begin_25 : decode b_TypeFinderModel_begin 25 = .ok (.iconst 0, 1) := by decide +kernel
theorem d_TypeFinderModel_begin_26 : decode b_TypeFinderModel_begin 26 = .ok (.ireturn, 1) := by decide +kernel
theorem d_TypeFinderModel_beginExpression_0 : decode b_TypeFinderModel_beginExpression 0 = .ok (.aload_n 0, 1) := by decide +kernel
theorem d_TypeFinderModel_beginExpression_1 : decode b_TypeFinderModel_beginExpression 1 = .ok (.invokevirtual 263, 3) := by decide +kernel
theorem d_TypeFinderModel_beginExpression_4 : decode b_TypeFinderModel_beginExpression 4 = .ok (.istore_n 1, 1) := by decide +kernel
theorem d_TypeFinderModel_beginExpression_5 : decode b_TypeFinderModel_beginExpression 5 = .ok (.aload_n 0, 1) := by decide +kernel
theorem d_TypeFinderModel_beginExpression_6 : decode b_TypeFinderModel_beginExpression 6 = .ok (.aload_n 0, 1) := by decide +kernel
theorem d_TypeFinderModel_beginExpression_7 : decode b_TypeFinderModel_beginExpression 7 = .ok (.getfield 230, 3) := by decide +kernel
theorem d_TypeFinderModel_beginExpression_10 : decode b_TypeFinderModel_beginExpression 10 = .ok (.ifCond .ne 12, 3) := by decide +kernel
theorem d_TypeFinderModel_beginExpression_13 : decode b_TypeFinderModel_beginExpression 13 = .ok (.aload_n 0, 1) := by decide +kernel
theorem d_TypeFinderModel_beginExpression_14 : decode b_TypeFinderModel_beginExpression 14 = .ok (.getfield 277, 3) := by decide +kernel
