theorem d_StringLatin1_canEncode_0 : decode b_StringLatin1_canEncode 0 = .ok (.iload_n 0, 1) := by decide +kernel
theorem d_StringLatin1_canEncode_1 : decode b_StringLatin1_canEncode 1 = .ok (.ifCond .lt 14, 3) := by decide +kernel
theorem d_StringLatin1_canEncode_4 : decode b_StringLatin1_canEncode 4 = .ok (.iload_n 0, 1) := by decide +kernel
theorem d_StringLatin1_canEncode_5 : decode b_StringLatin1_canEncode 5 = .ok (.sipush 255, 3) := by decide +kernel
theorem d_StringLatin1_canEncode_8 : decode b_StringLatin1_canEncode 8 = .ok (.if_icmp .gt 7, 3) := by decide +kernel
theorem d_StringLatin1_canEncode_11 : decode b_StringLatin1_canEncode 11 = .ok (.iconst 1, 1) := by decide +kernel
theorem d_StringLatin1_canEncode_12 : decode b_StringLatin1_canEncode 12 = .ok (.goto 4, 3) := by decide +kernel
theorem d_StringLatin1_canEncode_15 : decode b_StringLatin1_canEncode 15 = .ok (.iconst 0, 1) := by decide +kernel
theorem d_StringLatin1_canEncode_16 : decode b_StringLatin1_canEncode 16 = .ok (.ireturn, 1) := by decide +kernel
theorem d_StringLatin1_indexOf_0 : decode b_StringLatin1_indexOf 0 = .ok (.iload_n 1, 1) := by decide +kernel
theorem d_StringLatin1_indexOf_1 : decode b_StringLatin1_indexOf 1 = .ok (.invokestatic 88, 3) := by decide +kernel
theorem d_StringLatin1_indexOf_4 : decode b_StringLatin1_indexOf 4 = .ok (.ifCond .ne 5, 3) := by decide +kernel
theorem d_StringLatin1_indexOf_7 : decode b_StringLatin1_indexOf 7 = .ok (.iconst (-1), 1) := by decide +kernel
theorem d_StringLatin1_indexOf_8 : decode b_StringLatin1_indexOf 8 = .ok (.ireturn, 1) := by decide +kernel
theorem d_StringLatin1_indexOf_9 : decode b_StringLatin1_indexOf 9 = .ok (.iload_n 2, 1) := by decide +kernel
theorem d_StringLatin1_indexOf_10 : decode b_StringLatin1_indexOf 10 = .ok (.iconst 0, 1) := by decide +kernel
theorem d_StringLatin1_indexOf_11 : decode b_StringLatin1_indexOf 11 = .ok (.invokestatic 92, 3) := by decide +kernel
theorem d_StringLatin1_indexOf_14 : decode b_StringLatin1_indexOf 14 = .ok (.istore_n 2, 1) := by decide +kernel
theorem d_StringLatin1_indexOf_15 : decode b_StringLatin1_indexOf 15 = .ok (.iload_n 3, 1) := by decide +kernel
theorem d_StringLatin1_indexOf_16 : decode b_StringLatin1_indexOf 16 = .ok (.aload_n 0, 1) := by decide +kernel
theorem d_StringLatin1_indexOf_17 : decode b_StringLatin1_indexOf 17 = .ok (.arraylength, 1) := by decide +kernel
theorem d_StringLatin1_indexOf_18 : decode b_StringLatin1_indexOf 18 = .ok (.invokestatic 38, 3) := by decide +kernel
theorem d_StringLatin1_indexOf_21 : decode b_StringLatin1_indexOf 21 = .ok (.istore_n 3, 1) := by decide +kernel
theorem d_StringLatin1_indexOf_22 : decode b_StringLatin1_indexOf 22 = .ok (.iload_n 2, 1) := by decide +kernel
theorem d_StringLatin1_indexOf_23 : decode b_StringLatin1_indexOf 23 = .ok (.iload_n 3, 1) := by decide +kernel
theorem d_StringLatin1_indexOf_24 : decode b_StringLatin1_indexOf 24 = .ok (.if_icmp .lt 5, 3) := by decide +kernel
theorem d_StringLatin1_indexOf_29 : decode b_StringLatin1_indexOf 29 = .ok (.aload_n 0, 1) := by decide +kernel
theorem d_StringLatin1_indexOf_30 : decode b_StringLatin1_indexOf 30 = .ok (.iload_n 1, 1) := by decide +kernel
theorem d_StringLatin1_indexOf_31 : decode b_StringLatin1_indexOf 31 = .ok (.iload_n 2, 1) := by decide +kernel
theorem d_StringLatin1_indexOf_32 : decode b_StringLatin1_indexOf 32 = .ok (.iload_n 3, 1) := by decide +kernel
theorem d_StringLatin1_indexOf_33 : decode b_StringLatin1_indexOf 33 = .ok (.invokestatic 95, 3) := by decide +kernel
theorem d_StringLatin1_indexOf_36 : decode b_StringLatin1_indexOf 36 = .ok (.ireturn, 1) := by decide +kernel
theorem d_StringLatin1_indexOfChar_0 : decode b_StringLatin1_indexOfChar 0 = .ok (.iload_n 1, 1) := by decide +kernel
theorem d_StringLatin1_indexOfChar_1 : decode b_StringLatin1_indexOfChar 1 = .ok (.i2b, 1) := by decide +kernel
theorem d_StringLatin1_indexOfChar_2 : decode b_StringLatin1_indexOfChar 2 = .ok (.istore 4, 2) := by decide +kernel
theorem d_StringLatin1_indexOfChar_4 : decode b_StringLatin1_indexOfChar 4 = .ok (.iload_n 2, 1) := by decide +kernel
theorem d_StringLatin1_indexOfChar_5 : decode b_StringLatin1_indexOfChar 5 = .ok (.istore 5, 2) := by decide +kernel
theorem d_StringLatin1_indexOfChar_7 : decode b_StringLatin1_indexOfChar 7 = .ok (.iload 5, 2) := by decide +kernel
theorem d_StringLatin1_indexOfChar_9 : decode b_StringLatin1_indexOfChar 9 = .ok (.iload_n 3, 1) := by decide +kernel
theorem d_StringLatin1_indexOfChar_10 : decode b_StringLatin1_indexOfChar 10 = .ok (.if_icmp .ge 21, 3) := by decide +kernel
theorem d_StringLatin1_indexOfChar_13 : decode b_StringLatin1_indexOfChar 13 = .ok (.aload_n 0, 1) := by decide +kernel
theorem d_StringLatin1_indexOfChar_14 : decode b_StringLatin1_indexOfChar 14 = .ok (.iload 5, 2) := by decide +kernel
theorem d_StringLatin1_indexOfChar_16 : decode b_StringLatin1_indexOfChar 16 = .ok (.baload, 1) := by decide +kernel
theorem d_StringLatin1_indexOfChar_17 : decode b_StringLatin1_indexOfChar 17 = .ok (.iload 4, 2) := by decide +kernel
theorem d_StringLatin1_indexOfChar_19 : decode b_StringLatin1_indexOfChar 19 = .ok (.if_icmp .ne 6, 3) := by decide +kernel
theorem d_StringLatin1_indexOfChar_22 : decode b_StringLatin1_indexOfChar 22 = .ok (.iload 5, 2) := by decide +kernel
theorem d_StringLatin1_indexOfChar_24 : decode b_StringLatin1_indexOfChar 24 = .ok (.ireturn, 1) := by decide +kernel
theorem d_StringLatin1_indexOfChar_25 : decode b_StringLatin1_indexOfChar 25 = .ok (.iinc 5 1, 3) := by decide +kernel
theorem d_StringLatin1_indexOfChar_28 : decode b_StringLatin1_indexOfChar 28 = .ok (.goto (-21), 3) := by decide +kernel
theorem d_StringLatin1_indexOfChar_31 : decode b_StringLatin1_indexOfChar 31 = .ok (.iconst (-1), 1) := by decide +kernel
theorem d_StringLatin1_indexOfChar_32 : decode b_StringLatin1_indexOfChar 32 = .ok (.ireturn, 1) := by decide +kernel
theorem d_String_indexOf_0 : decode b_String_indexOf 0 = .ok (.aload_n 0, 1) := by decide +kernel
theorem d_String_indexOf_1 : decode b_String_indexOf 1 = .ok (.invokevirtual 492, 3) := by decide +kernel
theorem d_String_indexOf_4 : decode b_String_indexOf 4 = .ok (.ifCond .eq 19, 3) := by decide +kernel
theorem d_String_indexOf_7 : decode b_String_indexOf 7 = .ok (.aload_n 0, 1) := by decide +kernel
theorem d_String_indexOf_8 : decode b_String_indexOf 8 = .ok (.getfield 9, 3) := by decide +kernel
theorem d_String_indexOf_11 : decode b_String_indexOf 11 = .ok (.iload_n 1, 1) := by decide +kernel
theorem d_String_indexOf_12 : decode b_String_indexOf 12 = .ok (.iload_n 2, 1) := by decide +kernel
theorem d_String_indexOf_13 : decode b_String_indexOf 13 = .ok (.aload_n 0, 1) := by decide +kernel
theorem d_String_indexOf_14 : decode b_String_indexOf 14 = .ok (.invokevirtual 505, 3) := by decide +kernel
theorem d_String_indexOf_17 : decode b_String_indexOf 17 = .ok (.invokestatic 637, 3) := by decide +kernel
theorem d_String_indexOf_20 : decode b_String_indexOf 20 = .ok (.goto 16, 3) := by decide +kernel
theorem d_String_indexOf_36 : decode b_String_indexOf 36 = .ok (.ireturn, 1) := by decide +kernel
theorem d_String_indexOf2_0 : decode b_String_indexOf2 0 = .ok (.aload_n 0, 1) := by decide +kernel
theorem d_String_indexOf2_1 : decode b_String_indexOf2 1 = .ok (.iload_n 1, 1) := by decide +kernel
theorem d_String_indexOf2_2 : decode b_String_indexOf2 2 = .ok (.iconst 0, 1) := by decide +kernel
theorem d_String_indexOf2_3 : decode b_String_indexOf2 3 = .ok (.invokevirtual 633, 3) := by decide +kernel
theorem d_String_indexOf2_6 : decode b_String_indexOf2 6 = .ok (.ireturn, 1) := by decide +kernel
theorem d_TypeFinderModel_ifx_0 : decode b_TypeFinderModel_ifx 0 = .ok (.aload_n 0, 1) := by decide +kernel
theorem d_TypeFinderModel_ifx_1 : decode b_TypeFinderModel_ifx 1 = .ok (.iconst 0, 1) := by decide +kernel
theorem d_TypeFinderModel_ifx_2 : decode b_TypeFinderModel_ifx 2 = .ok (.putfield 190, 3) := by decide +kernel
theorem d_TypeFinderModel_ifx_5 : decode b_TypeFinderModel_ifx 5 = .ok (.iload_n 1, 1) := by decide +kernel
theorem d_TypeFinderModel_ifx_6 : decode b_TypeFinderModel_ifx 6 = .ok (.invokestatic 250, 3) := by decide +kernel
theorem d_TypeFinderModel_ifx_9 : decode b_TypeFinderModel_ifx 9 = .ok (.istore 4, 2) := by decide +kernel
theorem d_TypeFinderModel_ifx_11 : decode b_TypeFinderModel_ifx 11 = .ok (.iload 4, 2) := by decide +kernel
theorem d_TypeFinderModel_ifx_13 : decode b_TypeFinderModel_ifx 13 = .ok (.ifCond .lt 20, 3) := by decide +kernel
theorem d_TypeFinderModel_ifx_16 : decode b_TypeFinderModel_ifx 16 = .ok (.iload 4, 2) := by decide +kernel
theorem d_TypeFinderModel_ifx_18 : decode b_TypeFinderModel_ifx 18 = .ok (.bipush 6, 2) := by decide +kernel
theorem d_TypeFinderModel_ifx_20 : decode b_TypeFinderModel_ifx 20 = .ok (.if_icmp .eq 13, 3) := by decide +kernel
theorem d_TypeFinderModel_ifx_23 : decode b_TypeFinderModel_ifx 23 = .ok (.iload_n 2, 1) := by decide +kernel
theorem d_TypeFinderModel_ifx_24 : decode b_TypeFinderModel_ifx 24 = .ok (.ifCond .lt 9, 3) := by decide +kernel
theorem d_TypeFinderModel_ifx_27 : decode b_TypeFinderModel_ifx 27 = .ok (.iload_n 2, 1) := by decide +kernel
theorem d_TypeFinderModel_ifx_28 : decode b_TypeFinderModel_ifx 28 = .ok (.bipush 9, 2) := by decide +kernel
theorem d_TypeFinderModel_ifx_30 : decode b_TypeFinderModel_ifx 30 = .ok (.if_icmp .le 5, 3) := by decide +kernel
theorem d_TypeFinderModel_ifx_33 : decode b_TypeFinderModel_ifx 33 = .ok (.iconst 0, 1) := by decide +kernel
theorem d_TypeFinderModel_ifx_34 : decode b_TypeFinderModel_ifx 34 = .ok (.ireturn, 1) := by decide +kernel
theorem d_TypeFinderModel_ifx_35 : decode b_TypeFinderModel_ifx 35 = .ok (.aload_n 0, 1) := by decide +kernel
theorem d_TypeFinderModel_ifx_36 : decode b_TypeFinderModel_ifx 36 = .ok (.getfield 19, 3) := by decide +kernel
theorem d_TypeFinderModel_ifx_39 : decode b_TypeFinderModel_ifx 39 = .ok (.iload 4, 2) := by decide +kernel
theorem d_TypeFinderModel_ifx_41 : decode b_TypeFinderModel_ifx 41 = .ok (.iload_n 2, 1) := by decide +kernel
theorem d_TypeFinderModel_ifx_42 : decode b_TypeFinderModel_ifx 42 = .ok (.iastore, 1) := by decide +kernel
theorem d_TypeFinderModel_ifx_43 : decode b_TypeFinderModel_ifx 43 = .ok (.aload_n 0, 1) := by decide +kernel
theorem d_TypeFinderModel_ifx_44 : decode b_TypeFinderModel_ifx 44 = .ok (.getfield 22, 3) := by decide +kernel
theorem d_TypeFinderModel_ifx_47 : decode b_TypeFinderModel_ifx 47 = .ok (.iload 4, 2) := by decide +kernel
theorem d_TypeFinderModel_ifx_49 : decode b_TypeFinderModel_ifx 49 = .ok (.iload_n 3, 1) := by decide +kernel
theorem d_TypeFinderModel_ifx_50 : decode b_TypeFinderModel_ifx 50 = .ok (.bastore, 1) := by decide +kernel
theorem d_TypeFinderModel_ifx_51 : decode b_TypeFinderModel_ifx 51 = .ok (.iconst 1, 1) := by decide +kernel
theorem d_TypeFinderModel_ifx_52 : decode b_TypeFinderModel_ifx 52 = .ok (.ireturn, 1) := by decide +kernel
theorem d_TypeFinderModel_operatorOf_0 : decode b_TypeFinderModel_operatorOf 0 = .ok (.iload_n 0, 1) := by decide +kernel
theorem d_TypeFinderModel_operatorOf_1 : decode b_TypeFinderModel_operatorOf 1 = .ok (.lookupswitch 115 #[(38, 112), (42, 95), (43, 91), (45, 93), (47, 97), (58, 103), (60, 99), (63, 101), (64, 106), (94, 109)], 91) := by decide +kernel
theorem d_TypeFinderModel_operatorOf_92 : decode b_TypeFinderModel_operatorOf 92 = .ok (.iconst 0, 1) := by decide +kernel
theorem d_TypeFinderModel_operatorOf_93 : decode b_TypeFinderModel_operatorOf 93 = .ok (.ireturn, 1) := by decide +kernel
theorem d_TypeFinderModel_operatorOf_94 : decode b_TypeFinderModel_operatorOf 94 = .ok (.iconst 1, 1) := by decide +kernel
theorem d_TypeFinderModel_operatorOf_95 : decode b_TypeFinderModel_operatorOf 95 = .ok (.ireturn, 1) := by decide +kernel
theorem d_TypeFinderModel_operatorOf_96 : decode b_TypeFinderModel_operatorOf 96 = .ok (.iconst 2, 1) := by decide +kernel
theorem d_TypeFinderModel_operatorOf_97 : decode b_TypeFinderModel_operatorOf 97 = .ok (.ireturn, 1) := by decide +kernel
theorem d_TypeFinderModel_operatorOf_98 : decode b_TypeFinderModel_operatorOf 98 = .ok (.iconst 3, 1) := by decide +kernel
theorem d_TypeFinderModel_operatorOf_99 : decode b_TypeFinderModel_operatorOf 99 = .ok (.ireturn, 1) := by decide +kernel
theorem d_TypeFinderModel_operatorOf_100 : decode b_TypeFinderModel_operatorOf 100 = .ok (.iconst 4, 1) := by decide +kernel
theorem d_TypeFinderModel_operatorOf_101 : decode b_TypeFinderModel_operatorOf 101 = .ok (.ireturn, 1) := by decide +kernel
theorem d_TypeFinderModel_operatorOf_102 : decode b_TypeFinderModel_operatorOf 102 = .ok (.iconst 5, 1) := by decide +kernel
theorem d_TypeFinderModel_operatorOf_103 : decode b_TypeFinderModel_operatorOf 103 = .ok (.ireturn, 1) := by decide +kernel
theorem d_TypeFinderModel_operatorOf_104 : decode b_TypeFinderModel_operatorOf 104 = .ok (.bipush 6, 2) := by decide +kernel
theorem d_TypeFinderModel_operatorOf_106 : decode b_TypeFinderModel_operatorOf 106 = .ok (.ireturn, 1) := by decide +kernel
theorem d_TypeFinderModel_operatorOf_107 : decode b_TypeFinderModel_operatorOf 107 = .ok (.bipush 7, 2) := by decide +kernel
theorem d_TypeFinderModel_operatorOf_109 : decode b_TypeFinderModel_operatorOf 109 = .ok (.ireturn, 1) := by decide +kernel
theorem d_TypeFinderModel_operatorOf_110 : decode b_TypeFinderModel_operatorOf 110 = .ok (.bipush 8, 2) := by decide +kernel
theorem d_TypeFinderModel_operatorOf_112 : decode b_TypeFinderModel_operatorOf 112 = .ok (.ireturn, 1) := by decide +kernel
theorem d_TypeFinderModel_operatorOf_113 : decode b_TypeFinderModel_operatorOf 113 = .ok (.bipush 9, 2) := by decide +kernel
theorem d_TypeFinderModel_operatorOf_115 : decode b_TypeFinderModel_operatorOf 115 = .ok (.ireturn, 1) := by decide +kernel
theorem d_TypeFinderModel_operatorOf_116 : decode b_TypeFinderModel_operatorOf 116 = .ok (.iconst (-1), 1) := by decide +kernel
theorem d_TypeFinderModel_operatorOf_117 : decode b_TypeFinderModel_operatorOf 117 = .ok (.ireturn, 1) := by decide +kernel
theorem d_TypeFinder_Parser_setLevel_0 : decode b_TypeFinder_Parser_setLevel 0 = .ok (.ldc 35, 2) := by decide +kernel
theorem d_TypeFinder_Parser_setLevel_2 : decode b_TypeFinder_Parser_setLevel 2 = .ok (.iload_n 1, 1) := by decide +kernel
theorem d_TypeFinder_Parser_setLevel_3 : decode b_TypeFinder_Parser_setLevel 3 = .ok (.invokevirtual 37, 3) := by decide +kernel
theorem d_TypeFinder_Parser_setLevel_6 : decode b_TypeFinder_Parser_setLevel 6 = .ok (.istore 4, 2) := by decide +kernel
theorem d_TypeFinder_Parser_setLevel_8 : decode b_TypeFinder_Parser_setLevel 8 = .ok (.iload 4, 2) := by decide +kernel
theorem d_TypeFinder_Parser_setLevel_10 : decode b_TypeFinder_Parser_setLevel 10 = .ok (.ifCond .lt 19, 3) := by decide +kernel
theorem d_TypeFinder_Parser_setLevel_13 : decode b_TypeFinder_Parser_setLevel 13 = .ok (.iload_n 1, 1) := by decide +kernel
theorem d_TypeFinder_Parser_setLevel_14 : decode b_TypeFinder_Parser_setLevel 14 = .ok (.bipush 58, 2) := by decide +kernel
theorem d_TypeFinder_Parser_setLevel_16 : decode b_TypeFinder_Parser_setLevel 16 = .ok (.if_icmp .eq 13, 3) := by decide +kernel
theorem d_TypeFinder_Parser_setLevel_19 : decode b_TypeFinder_Parser_setLevel 19 = .ok (.iload_n 2, 1) := by decide +kernel
theorem d_TypeFinder_Parser_setLevel_20 : decode b_TypeFinder_Parser_setLevel 20 = .ok (.ifCond .lt 9, 3) := by decide +kernel
theorem d_TypeFinder_Parser_setLevel_23 : decode b_TypeFinder_Parser_setLevel 23 = .ok (.iload_n 2, 1) := by decide +kernel
theorem d_TypeFinder_Parser_setLevel_24 : decode b_TypeFinder_Parser_setLevel 24 = .ok (.bipush 9, 2) := by decide +kernel
theorem d_TypeFinder_Parser_setLevel_26 : decode b_TypeFinder_Parser_setLevel 26 = .ok (.if_icmp .le 5, 3) := by decide +kernel
theorem d_TypeFinder_Parser_setLevel_29 : decode b_TypeFinder_Parser_setLevel 29 = .ok (.iconst 0, 1) := by decide +kernel
theorem d_TypeFinder_Parser_setLevel_30 : decode b_TypeFinder_Parser_setLevel 30 = .ok (.ireturn, 1) := by decide +kernel
theorem d_TypeFinder_Parser_setLevel_31 : decode b_TypeFinder_Parser_setLevel 31 = .ok (.aload_n 0, 1) := by decide +kernel
theorem d_TypeFinder_Parser_setLevel_32 : decode b_TypeFinder_Parser_setLevel 32 = .ok (.getfield 27, 3) := by decide +kernel
theorem d_TypeFinder_Parser_setLevel_35 : decode b_TypeFinder_Parser_setLevel 35 = .ok (.iload 4, 2) := by decide +kernel
theorem d_TypeFinder_Parser_setLevel_37 : decode b_TypeFinder_Parser_setLevel 37 = .ok (.iload_n 2, 1) := by decide +kernel
theorem d_TypeFinder_Parser_setLevel_38 : decode b_TypeFinder_Parser_setLevel 38 = .ok (.iastore, 1) := by decide +kernel
theorem d_TypeFinder_Parser_setLevel_39 : decode b_TypeFinder_Parser_setLevel 39 = .ok (.aload_n 0, 1) := by decide +kernel
theorem d_TypeFinder_Parser_setLevel_40 : decode b_TypeFinder_Parser_setLevel 40 = .ok (.getfield 31, 3) := by decide +kernel
theorem d_TypeFinder_Parser_setLevel_43 : decode b_TypeFinder_Parser_setLevel 43 = .ok (.iload 4, 2) := by decide +kernel
theorem d_TypeFinder_Parser_setLevel_45 : decode b_TypeFinder_Parser_setLevel 45 = .ok (.iload_n 3, 1) := by decide +kernel
theorem d_TypeFinder_Parser_setLevel_46 : decode b_TypeFinder_Parser_setLevel 46 = .ok (.bastore, 1) := by decide +kernel
theorem d_TypeFinder_Parser_setLevel_47 : decode b_TypeFinder_Parser_setLevel 47 = .ok (.iconst 1, 1) := by decide +kernel
theorem d_TypeFinder_Parser_setLevel_48 : decode b_TypeFinder_Parser_setLevel 48 = .ok (.ireturn, 1) := by decide +kernel
