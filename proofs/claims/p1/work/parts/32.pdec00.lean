theorem d_AbstractStringBuilder_length_0 : decode b_AbstractStringBuilder_length 0 = .ok (.aload_n 0, 1) := by decide +kernel
theorem d_AbstractStringBuilder_length_1 : decode b_AbstractStringBuilder_length 1 = .ok (.getfield 79, 3) := by decide +kernel
theorem d_AbstractStringBuilder_length_4 : decode b_AbstractStringBuilder_length 4 = .ok (.ireturn, 1) := by decide +kernel
theorem d_ArrayList_elementData_0 : decode b_ArrayList_elementData 0 = .ok (.aload_n 0, 1) := by decide +kernel
theorem d_ArrayList_elementData_1 : decode b_ArrayList_elementData 1 = .ok (.getfield 9, 3) := by decide +kernel
theorem d_ArrayList_elementData_4 : decode b_ArrayList_elementData 4 = .ok (.iload_n 1, 1) := by decide +kernel
theorem d_ArrayList_elementData_5 : decode b_ArrayList_elementData 5 = .ok (.aaload, 1) := by decide +kernel
theorem d_ArrayList_elementData_6 : decode b_ArrayList_elementData 6 = .ok (.areturn, 1) := by decide +kernel
theorem d_ArrayList_get_0 : decode b_ArrayList_get 0 = .ok (.iload_n 1, 1) := by decide +kernel
theorem d_ArrayList_get_1 : decode b_ArrayList_get 1 = .ok (.aload_n 0, 1) := by decide +kernel
theorem d_ArrayList_get_2 : decode b_ArrayList_get 2 = .ok (.getfield 48, 3) := by decide +kernel
theorem d_ArrayList_get_5 : decode b_ArrayList_get 5 = .ok (.invokestatic 118, 3) := by decide +kernel
theorem d_ArrayList_get_8 : decode b_ArrayList_get 8 = .ok (.pop, 1) := by decide +kernel
theorem d_ArrayList_get_9 : decode b_ArrayList_get 9 = .ok (.aload_n 0, 1) := by decide +kernel
theorem d_ArrayList_get_10 : decode b_ArrayList_get 10 = .ok (.iload_n 1, 1) := by decide +kernel
theorem d_ArrayList_get_11 : decode b_ArrayList_get 11 = .ok (.invokevirtual 123, 3) := by decide +kernel
theorem d_ArrayList_get_14 : decode b_ArrayList_get 14 = .ok (.areturn, 1) := by decide +kernel
theorem d_Objects_checkIndex_0 : decode b_Objects_checkIndex 0 = .ok (.iload_n 0, 1) := by decide +kernel
theorem d_Objects_checkIndex_1 : decode b_Objects_checkIndex 1 = .ok (.iload_n 1, 1) := by decide +kernel
theorem d_Objects_checkIndex_2 : decode b_Objects_checkIndex 2 = .ok (.aconst_null, 1) := by decide +kernel
theorem d_Objects_checkIndex_3 : decode b_Objects_checkIndex 3 = .ok (.invokestatic 105, 3) := by decide +kernel
theorem d_Objects_checkIndex_6 : decode b_Objects_checkIndex 6 = .ok (.ireturn, 1) := by decide +kernel
theorem d_StringBuilder_length_0 : decode b_StringBuilder_length 0 = .ok (.aload_n 0, 1) := by decide +kernel
theorem d_StringBuilder_length_1 : decode b_StringBuilder_length 1 = .ok (.invokespecial 343, 3) := by decide +kernel
theorem d_StringBuilder_length_4 : decode b_StringBuilder_length 4 = .ok (.ireturn, 1) := by decide +kernel
theorem d_TypeFinderModel_count_0 : decode b_TypeFinderModel_count 0 = .ok (.aload_n 0, 1) := by decide +kernel
theorem d_TypeFinderModel_count_1 : decode b_TypeFinderModel_count 1 = .ok (.iconst 0, 1) := by decide +kernel
theorem d_TypeFinderModel_count_2 : decode b_TypeFinderModel_count 2 = .ok (.putfield 190, 3) := by decide +kernel
theorem d_TypeFinderModel_count_5 : decode b_TypeFinderModel_count 5 = .ok (.iload_n 1, 1) := by decide +kernel
theorem d_TypeFinderModel_count_6 : decode b_TypeFinderModel_count 6 = .ok (.ifCond .ne 11, 3) := by decide +kernel
theorem d_TypeFinderModel_count_9 : decode b_TypeFinderModel_count 9 = .ok (.aload_n 0, 1) := by decide +kernel
theorem d_TypeFinderModel_count_10 : decode b_TypeFinderModel_count 10 = .ok (.getfield 26, 3) := by decide +kernel
theorem d_TypeFinderModel_count_13 : decode b_TypeFinderModel_count 13 = .ok (.bipush 6, 2) := by decide +kernel
theorem d_TypeFinderModel_count_15 : decode b_TypeFinderModel_count 15 = .ok (.isub, 1) := by decide +kernel
theorem d_TypeFinderModel_count_16 : decode b_TypeFinderModel_count 16 = .ok (.ireturn, 1) := by decide +kernel
theorem d_TypeFinderModel_count_17 : decode b_TypeFinderModel_count 17 = .ok (.iload_n 1, 1) := by decide +kernel
theorem d_TypeFinderModel_count_18 : decode b_TypeFinderModel_count 18 = .ok (.iconst 1, 1) := by decide +kernel
theorem d_TypeFinderModel_count_19 : decode b_TypeFinderModel_count 19 = .ok (.if_icmp .ne 8, 3) := by decide +kernel
theorem d_TypeFinderModel_count_22 : decode b_TypeFinderModel_count 22 = .ok (.aload_n 0, 1) := by decide +kernel
theorem d_TypeFinderModel_count_23 : decode b_TypeFinderModel_count 23 = .ok (.getfield 39, 3) := by decide +kernel
theorem d_TypeFinderModel_count_26 : decode b_TypeFinderModel_count 26 = .ok (.ireturn, 1) := by decide +kernel
theorem d_TypeFinderModel_count_27 : decode b_TypeFinderModel_count 27 = .ok (.iload_n 1, 1) := by decide +kernel
theorem d_TypeFinderModel_count_28 : decode b_TypeFinderModel_count 28 = .ok (.iconst 2, 1) := by decide +kernel
theorem d_TypeFinderModel_count_29 : decode b_TypeFinderModel_count 29 = .ok (.if_icmp .lt 13, 3) := by decide +kernel
theorem d_TypeFinderModel_count_32 : decode b_TypeFinderModel_count 32 = .ok (.iload_n 1, 1) := by decide +kernel
theorem d_TypeFinderModel_count_33 : decode b_TypeFinderModel_count 33 = .ok (.iconst 2, 1) := by decide +kernel
theorem d_TypeFinderModel_count_34 : decode b_TypeFinderModel_count 34 = .ok (.isub, 1) := by decide +kernel
theorem d_TypeFinderModel_count_35 : decode b_TypeFinderModel_count 35 = .ok (.aload_n 0, 1) := by decide +kernel
theorem d_TypeFinderModel_count_36 : decode b_TypeFinderModel_count 36 = .ok (.getfield 39, 3) := by decide +kernel
theorem d_TypeFinderModel_count_39 : decode b_TypeFinderModel_count 39 = .ok (.if_icmp .lt 7, 3) := by decide +kernel
theorem d_TypeFinderModel_count_42 : decode b_TypeFinderModel_count 42 = .ok (.iconst (-1), 1) := by decide +kernel
theorem d_TypeFinderModel_count_43 : decode b_TypeFinderModel_count 43 = .ok (.goto 19, 3) := by decide +kernel
theorem d_TypeFinderModel_count_46 : decode b_TypeFinderModel_count 46 = .ok (.aload_n 0, 1) := by decide +kernel
theorem d_TypeFinderModel_count_47 : decode b_TypeFinderModel_count 47 = .ok (.getfield 51, 3) := by decide +kernel
theorem d_TypeFinderModel_count_50 : decode b_TypeFinderModel_count 50 = .ok (.iload_n 1, 1) := by decide +kernel
theorem d_TypeFinderModel_count_51 : decode b_TypeFinderModel_count 51 = .ok (.iconst 2, 1) := by decide +kernel
theorem d_TypeFinderModel_count_52 : decode b_TypeFinderModel_count 52 = .ok (.isub, 1) := by decide +kernel
theorem d_TypeFinderModel_count_53 : decode b_TypeFinderModel_count 53 = .ok (.baload, 1) := by decide +kernel
theorem d_TypeFinderModel_count_54 : decode b_TypeFinderModel_count 54 = .ok (.ifCond .eq 7, 3) := by decide +kernel
theorem d_TypeFinderModel_count_57 : decode b_TypeFinderModel_count 57 = .ok (.iconst 1, 1) := by decide +kernel
theorem d_TypeFinderModel_count_58 : decode b_TypeFinderModel_count 58 = .ok (.goto 4, 3) := by decide +kernel
theorem d_TypeFinderModel_count_62 : decode b_TypeFinderModel_count 62 = .ok (.ireturn, 1) := by decide +kernel
theorem d_TypeFinderModel_matches_0 : decode b_TypeFinderModel_matches 0 = .ok (.aload_n 0, 1) := by decide +kernel
theorem d_TypeFinderModel_matches_1 : decode b_TypeFinderModel_matches 1 = .ok (.iconst 0, 1) := by decide +kernel
theorem d_TypeFinderModel_matches_2 : decode b_TypeFinderModel_matches 2 = .ok (.putfield 190, 3) := by decide +kernel
theorem d_TypeFinderModel_matches_5 : decode b_TypeFinderModel_matches 5 = .ok (.iload_n 1, 1) := by decide +kernel
theorem d_TypeFinderModel_matches_6 : decode b_TypeFinderModel_matches 6 = .ok (.ifCond .eq 8, 3) := by decide +kernel
theorem d_TypeFinderModel_matches_9 : decode b_TypeFinderModel_matches 9 = .ok (.iload_n 1, 1) := by decide +kernel
theorem d_TypeFinderModel_matches_10 : decode b_TypeFinderModel_matches 10 = .ok (.iconst 1, 1) := by decide +kernel
theorem d_TypeFinderModel_matches_11 : decode b_TypeFinderModel_matches 11 = .ok (.if_icmp .ne 12, 3) := by decide +kernel
theorem d_TypeFinderModel_matches_14 : decode b_TypeFinderModel_matches 14 = .ok (.aload_n 0, 1) := by decide +kernel
theorem d_TypeFinderModel_matches_15 : decode b_TypeFinderModel_matches 15 = .ok (.getfield 144, 3) := by decide +kernel
theorem d_TypeFinderModel_matches_18 : decode b_TypeFinderModel_matches 18 = .ok (.iload_n 1, 1) := by decide +kernel
theorem d_TypeFinderModel_matches_19 : decode b_TypeFinderModel_matches 19 = .ok (.iaload, 1) := by decide +kernel
theorem d_TypeFinderModel_matches_20 : decode b_TypeFinderModel_matches 20 = .ok (.goto 4, 3) := by decide +kernel
theorem d_TypeFinderModel_matches_23 : decode b_TypeFinderModel_matches 23 = .ok (.iconst (-1), 1) := by decide +kernel
theorem d_TypeFinderModel_matches_24 : decode b_TypeFinderModel_matches 24 = .ok (.ireturn, 1) := by decide +kernel
theorem d_TypeFinderModel_scheme_0 : decode b_TypeFinderModel_scheme 0 = .ok (.aload_n 0, 1) := by decide +kernel
theorem d_TypeFinderModel_scheme_1 : decode b_TypeFinderModel_scheme 1 = .ok (.iconst 0, 1) := by decide +kernel
theorem d_TypeFinderModel_scheme_2 : decode b_TypeFinderModel_scheme 2 = .ok (.putfield 190, 3) := by decide +kernel
theorem d_TypeFinderModel_scheme_5 : decode b_TypeFinderModel_scheme 5 = .ok (.iload_n 1, 1) := by decide +kernel
theorem d_TypeFinderModel_scheme_6 : decode b_TypeFinderModel_scheme 6 = .ok (.ifCond .lt 14, 3) := by decide +kernel
theorem d_TypeFinderModel_scheme_9 : decode b_TypeFinderModel_scheme 9 = .ok (.iload_n 1, 1) := by decide +kernel
theorem d_TypeFinderModel_scheme_10 : decode b_TypeFinderModel_scheme 10 = .ok (.aload_n 0, 1) := by decide +kernel
theorem d_TypeFinderModel_scheme_11 : decode b_TypeFinderModel_scheme 11 = .ok (.getfield 26, 3) := by decide +kernel
theorem d_TypeFinderModel_scheme_14 : decode b_TypeFinderModel_scheme 14 = .ok (.bipush 6, 2) := by decide +kernel
theorem d_TypeFinderModel_scheme_16 : decode b_TypeFinderModel_scheme 16 = .ok (.isub, 1) := by decide +kernel
theorem d_TypeFinderModel_scheme_17 : decode b_TypeFinderModel_scheme 17 = .ok (.if_icmp .lt 5, 3) := by decide +kernel
theorem d_TypeFinderModel_scheme_20 : decode b_TypeFinderModel_scheme 20 = .ok (.iconst (-1), 1) := by decide +kernel
theorem d_TypeFinderModel_scheme_21 : decode b_TypeFinderModel_scheme 21 = .ok (.ireturn, 1) := by decide +kernel
theorem d_TypeFinderModel_written_0 : decode b_TypeFinderModel_written 0 = .ok (.aload_n 0, 1) := by decide +kernel
theorem d_TypeFinderModel_written_1 : decode b_TypeFinderModel_written 1 = .ok (.iconst 0, 1) := by decide +kernel
theorem d_TypeFinderModel_written_2 : decode b_TypeFinderModel_written 2 = .ok (.putfield 190, 3) := by decide +kernel
theorem d_TypeFinderModel_written_5 : decode b_TypeFinderModel_written 5 = .ok (.iload_n 1, 1) := by decide +kernel
theorem d_TypeFinderModel_written_6 : decode b_TypeFinderModel_written 6 = .ok (.ifCond .lt 20, 3) := by decide +kernel
theorem d_TypeFinderModel_written_9 : decode b_TypeFinderModel_written 9 = .ok (.iload_n 1, 1) := by decide +kernel
theorem d_TypeFinderModel_written_10 : decode b_TypeFinderModel_written 10 = .ok (.aload_n 0, 1) := by decide +kernel
theorem d_TypeFinderModel_written_11 : decode b_TypeFinderModel_written 11 = .ok (.getfield 516, 3) := by decide +kernel
theorem d_TypeFinderModel_written_14 : decode b_TypeFinderModel_written 14 = .ok (.if_icmp .ge 12, 3) := by decide +kernel
theorem d_TypeFinderModel_written_26 : decode b_TypeFinderModel_written 26 = .ok (.iconst (-1), 1) := by decide +kernel
theorem d_TypeFinderModel_written_27 : decode b_TypeFinderModel_written 27 = .ok (.ireturn, 1) := by decide +kernel
theorem d_TypeFinder_Known_allowance_0 : decode b_TypeFinder_Known_allowance 0 = .ok (.iload_n 1, 1) := by decide +kernel
theorem d_TypeFinder_Known_allowance_1 : decode b_TypeFinder_Known_allowance 1 = .ok (.ifCond .lt 14, 3) := by decide +kernel
theorem d_TypeFinder_Known_allowance_4 : decode b_TypeFinder_Known_allowance 4 = .ok (.iload_n 1, 1) := by decide +kernel
theorem d_TypeFinder_Known_allowance_5 : decode b_TypeFinder_Known_allowance 5 = .ok (.aload_n 0, 1) := by decide +kernel
theorem d_TypeFinder_Known_allowance_6 : decode b_TypeFinder_Known_allowance 6 = .ok (.getfield 23, 3) := by decide +kernel
theorem d_TypeFinder_Known_allowance_9 : decode b_TypeFinder_Known_allowance 9 = .ok (.invokevirtual 97, 3) := by decide +kernel
theorem d_TypeFinder_Known_allowance_12 : decode b_TypeFinder_Known_allowance 12 = .ok (.if_icmp .lt 5, 3) := by decide +kernel
theorem d_TypeFinder_Known_allowance_15 : decode b_TypeFinder_Known_allowance 15 = .ok (.iconst (-1), 1) := by decide +kernel
theorem d_TypeFinder_Known_allowance_16 : decode b_TypeFinder_Known_allowance 16 = .ok (.ireturn, 1) := by decide +kernel
theorem d_TypeFinder_Known_allowance_17 : decode b_TypeFinder_Known_allowance 17 = .ok (.aload_n 0, 1) := by decide +kernel
theorem d_TypeFinder_Known_allowance_18 : decode b_TypeFinder_Known_allowance 18 = .ok (.getfield 23, 3) := by decide +kernel
theorem d_TypeFinder_Known_allowance_21 : decode b_TypeFinder_Known_allowance 21 = .ok (.iload_n 1, 1) := by decide +kernel
theorem d_TypeFinder_Known_allowance_22 : decode b_TypeFinder_Known_allowance 22 = .ok (.invokevirtual 108, 3) := by decide +kernel
theorem d_TypeFinder_Known_allowance_25 : decode b_TypeFinder_Known_allowance 25 = .ok (.checkcast 39, 3) := by decide +kernel
theorem d_TypeFinder_Known_allowance_28 : decode b_TypeFinder_Known_allowance 28 = .ok (.getfield 112, 3) := by decide +kernel
theorem d_TypeFinder_Known_allowance_31 : decode b_TypeFinder_Known_allowance 31 = .ok (.ifCond .eq 7, 3) := by decide +kernel
theorem d_TypeFinder_Known_allowance_34 : decode b_TypeFinder_Known_allowance 34 = .ok (.iconst 1, 1) := by decide +kernel
theorem d_TypeFinder_Known_allowance_35 : decode b_TypeFinder_Known_allowance 35 = .ok (.goto 4, 3) := by decide +kernel
theorem d_TypeFinder_Known_allowance_39 : decode b_TypeFinder_Known_allowance 39 = .ok (.ireturn, 1) := by decide +kernel
theorem d_TypeFinder_Known_declaredName_0 : decode b_TypeFinder_Known_declaredName 0 = .ok (.iload_n 1, 1) := by decide +kernel
theorem d_TypeFinder_Known_declaredName_1 : decode b_TypeFinder_Known_declaredName 1 = .ok (.ifCond .lt 11, 3) := by decide +kernel
theorem d_TypeFinder_Known_declaredName_4 : decode b_TypeFinder_Known_declaredName 4 = .ok (.iload_n 1, 1) := by decide +kernel
theorem d_TypeFinder_Known_declaredName_5 : decode b_TypeFinder_Known_declaredName 5 = .ok (.aload_n 0, 1) := by decide +kernel
theorem d_TypeFinder_Known_declaredName_6 : decode b_TypeFinder_Known_declaredName 6 = .ok (.invokevirtual 105, 3) := by decide +kernel
theorem d_TypeFinder_Known_declaredName_9 : decode b_TypeFinder_Known_declaredName 9 = .ok (.if_icmp .lt 7, 3) := by decide +kernel
theorem d_TypeFinder_Known_declaredName_12 : decode b_TypeFinder_Known_declaredName 12 = .ok (.aconst_null, 1) := by decide +kernel
theorem d_TypeFinder_Known_declaredName_13 : decode b_TypeFinder_Known_declaredName 13 = .ok (.goto 19, 3) := by decide +kernel
theorem d_TypeFinder_Known_declaredName_32 : decode b_TypeFinder_Known_declaredName 32 = .ok (.areturn, 1) := by decide +kernel
theorem d_TypeFinder_Known_declaredNames_0 : decode b_TypeFinder_Known_declaredNames 0 = .ok (.aload_n 0, 1) := by decide +kernel
theorem d_TypeFinder_Known_declaredNames_1 : decode b_TypeFinder_Known_declaredNames 1 = .ok (.getfield 27, 3) := by decide +kernel
theorem d_TypeFinder_Known_declaredNames_4 : decode b_TypeFinder_Known_declaredNames 4 = .ok (.invokevirtual 97, 3) := by decide +kernel
theorem d_TypeFinder_Known_declaredNames_7 : decode b_TypeFinder_Known_declaredNames 7 = .ok (.aload_n 0, 1) := by decide +kernel
theorem d_TypeFinder_Known_declaredNames_8 : decode b_TypeFinder_Known_declaredNames 8 = .ok (.getfield 101, 3) := by decide +kernel
theorem d_TypeFinder_Known_declaredNames_11 : decode b_TypeFinder_Known_declaredNames 11 = .ok (.isub, 1) := by decide +kernel
theorem d_TypeFinder_Known_declaredNames_12 : decode b_TypeFinder_Known_declaredNames 12 = .ok (.ireturn, 1) := by decide +kernel
theorem d_TypeFinder_Writer_characterAt_0 : decode b_TypeFinder_Writer_characterAt 0 = .ok (.iload_n 1, 1) := by decide +kernel
theorem d_TypeFinder_Writer_characterAt_1 : decode b_TypeFinder_Writer_characterAt 1 = .ok (.ifCond .lt 14, 3) := by decide +kernel
theorem d_TypeFinder_Writer_characterAt_4 : decode b_TypeFinder_Writer_characterAt 4 = .ok (.iload_n 1, 1) := by decide +kernel
theorem d_TypeFinder_Writer_characterAt_5 : decode b_TypeFinder_Writer_characterAt 5 = .ok (.aload_n 0, 1) := by decide +kernel
theorem d_TypeFinder_Writer_characterAt_6 : decode b_TypeFinder_Writer_characterAt 6 = .ok (.getfield 12, 3) := by decide +kernel
theorem d_TypeFinder_Writer_characterAt_9 : decode b_TypeFinder_Writer_characterAt 9 = .ok (.invokevirtual 36, 3) := by decide +kernel
theorem d_TypeFinder_Writer_characterAt_12 : decode b_TypeFinder_Writer_characterAt 12 = .ok (.if_icmp .lt 7, 3) := by decide +kernel
theorem d_TypeFinder_Writer_characterAt_15 : decode b_TypeFinder_Writer_characterAt 15 = .ok (.iconst (-1), 1) := by decide +kernel
theorem d_TypeFinder_Writer_characterAt_16 : decode b_TypeFinder_Writer_characterAt 16 = .ok (.goto 11, 3) := by decide +kernel
theorem d_TypeFinder_Writer_characterAt_27 : decode b_TypeFinder_Writer_characterAt 27 = .ok (.ireturn, 1) := by decide +kernel
theorem d_TypeFinder_count_0 : decode b_TypeFinder_count 0 = .ok (.iload_n 1, 1) := by decide +kernel
theorem d_TypeFinder_count_1 : decode b_TypeFinder_count 1 = .ok (.ifCond .ne 11, 3) := by decide +kernel
theorem d_TypeFinder_count_4 : decode b_TypeFinder_count 4 = .ok (.aload_n 0, 1) := by decide +kernel
theorem d_TypeFinder_count_5 : decode b_TypeFinder_count 5 = .ok (.getfield 23, 3) := by decide +kernel
