theorem d_TypeFinder_Parser_expression_54 : decode b_TypeFinder_Parser_expression 54 = .ok (.bipush 15, 2) := by decide +kernel
theorem d_TypeFinder_Parser_expression_56 : decode b_TypeFinder_Parser_expression 56 = .ok (.invokevirtual 47, 3) := by decide +kernel
theorem d_TypeFinder_Parser_expression_59 : decode b_TypeFinder_Parser_expression 59 = .ok (.ifCond .eq 9, 3) := by decide +kernel
theorem d_TypeFinder_Parser_expression_68 : decode b_TypeFinder_Parser_expression 68 = .ok (.aload_n 0, 1) := by decide +kernel
theorem d_TypeFinder_Parser_expression_69 : decode b_TypeFinder_Parser_expression 69 = .ok (.getfield 12, 3) := by decide +kernel
theorem d_TypeFinder_Parser_expression_72 : decode b_TypeFinder_Parser_expression 72 = .ok (.bipush 18, 2) := by decide +kernel
theorem d_TypeFinder_Parser_expression_74 : decode b_TypeFinder_Parser_expression 74 = .ok (.invokevirtual 47, 3) := by decide +kernel
theorem d_TypeFinder_Parser_expression_77 : decode b_TypeFinder_Parser_expression 77 = .ok (.ifCond .eq 9, 3) := by decide +kernel
theorem d_TypeFinder_Parser_expression_86 : decode b_TypeFinder_Parser_expression 86 = .ok (.aload_n 0, 1) := by decide +kernel
theorem d_TypeFinder_Parser_expression_87 : decode b_TypeFinder_Parser_expression 87 = .ok (.iload_n 1, 1) := by decide +kernel
theorem d_TypeFinder_Parser_expression_88 : decode b_TypeFinder_Parser_expression 88 = .ok (.invokevirtual 104, 3) := by decide +kernel
theorem d_TypeFinder_Parser_init_0 : decode b_TypeFinder_Parser_init 0 = .ok (.aload_n 0, 1) := by decide +kernel
theorem d_TypeFinder_Parser_init_1 : decode b_TypeFinder_Parser_init 1 = .ok (.invokespecial 3, 3) := by decide +kernel
theorem d_TypeFinder_Parser_init_4 : decode b_TypeFinder_Parser_init 4 = .ok (.aload_n 0, 1) := by decide +kernel
theorem d_TypeFinder_Parser_init_5 : decode b_TypeFinder_Parser_init 5 = .ok (.new 9, 3) := by decide +kernel
theorem d_TypeFinder_Parser_init_8 : decode b_TypeFinder_Parser_init 8 = .ok (.dup, 1) := by decide +kernel
theorem d_TypeFinder_Parser_init_9 : decode b_TypeFinder_Parser_init 9 = .ok (.invokespecial 11, 3) := by decide +kernel
theorem d_TypeFinder_Parser_init_12 : decode b_TypeFinder_Parser_init 12 = .ok (.putfield 12, 3) := by decide +kernel
theorem d_TypeFinder_Parser_init_15 : decode b_TypeFinder_Parser_init 15 = .ok (.aload_n 0, 1) := by decide +kernel
theorem d_TypeFinder_Parser_init_16 : decode b_TypeFinder_Parser_init 16 = .ok (.new 18, 3) := by decide +kernel
theorem d_TypeFinder_Parser_init_19 : decode b_TypeFinder_Parser_init 19 = .ok (.dup, 1) := by decide +kernel
theorem d_TypeFinder_Parser_init_20 : decode b_TypeFinder_Parser_init 20 = .ok (.aload_n 0, 1) := by decide +kernel
theorem d_TypeFinder_Parser_init_21 : decode b_TypeFinder_Parser_init 21 = .ok (.getfield 12, 3) := by decide +kernel
theorem d_TypeFinder_Parser_init_24 : decode b_TypeFinder_Parser_init 24 = .ok (.invokespecial 20, 3) := by decide +kernel
theorem d_TypeFinder_Parser_init_27 : decode b_TypeFinder_Parser_init 27 = .ok (.putfield 23, 3) := by decide +kernel
theorem d_TypeFinder_Parser_init_30 : decode b_TypeFinder_Parser_init 30 = .ok (.aload_n 0, 1) := by decide +kernel
theorem d_TypeFinder_Parser_init_31 : decode b_TypeFinder_Parser_init 31 = .ok (.bipush 10, 2) := by decide +kernel
theorem d_TypeFinder_Parser_init_33 : decode b_TypeFinder_Parser_init 33 = .ok (.newarray .int, 2) := by decide +kernel
theorem d_TypeFinder_Parser_init_35 : decode b_TypeFinder_Parser_init 35 = .ok (.dup, 1) := by decide +kernel
theorem d_TypeFinder_Parser_init_36 : decode b_TypeFinder_Parser_init 36 = .ok (.iconst 0, 1) := by decide +kernel
theorem d_TypeFinder_Parser_init_37 : decode b_TypeFinder_Parser_init 37 = .ok (.bipush 6, 2) := by decide +kernel
theorem d_TypeFinder_Parser_init_39 : decode b_TypeFinder_Parser_init 39 = .ok (.iastore, 1) := by decide +kernel
theorem d_TypeFinder_Parser_init_40 : decode b_TypeFinder_Parser_init 40 = .ok (.dup, 1) := by decide +kernel
theorem d_TypeFinder_Parser_init_41 : decode b_TypeFinder_Parser_init 41 = .ok (.iconst 1, 1) := by decide +kernel
theorem d_TypeFinder_Parser_init_42 : decode b_TypeFinder_Parser_init 42 = .ok (.bipush 6, 2) := by decide +kernel
theorem d_TypeFinder_Parser_init_44 : decode b_TypeFinder_Parser_init 44 = .ok (.iastore, 1) := by decide +kernel
theorem d_TypeFinder_Parser_init_45 : decode b_TypeFinder_Parser_init 45 = .ok (.dup, 1) := by decide +kernel
theorem d_TypeFinder_Parser_init_46 : decode b_TypeFinder_Parser_init 46 = .ok (.iconst 2, 1) := by decide +kernel
theorem d_TypeFinder_Parser_init_47 : decode b_TypeFinder_Parser_init 47 = .ok (.bipush 7, 2) := by decide +kernel
theorem d_TypeFinder_Parser_init_49 : decode b_TypeFinder_Parser_init 49 = .ok (.iastore, 1) := by decide +kernel
theorem d_TypeFinder_Parser_init_50 : decode b_TypeFinder_Parser_init 50 = .ok (.dup, 1) := by decide +kernel
theorem d_TypeFinder_Parser_init_51 : decode b_TypeFinder_Parser_init 51 = .ok (.iconst 3, 1) := by decide +kernel
theorem d_TypeFinder_Parser_init_52 : decode b_TypeFinder_Parser_init 52 = .ok (.bipush 7, 2) := by decide +kernel
theorem d_TypeFinder_Parser_init_54 : decode b_TypeFinder_Parser_init 54 = .ok (.iastore, 1) := by decide +kernel
theorem d_TypeFinder_Parser_init_55 : decode b_TypeFinder_Parser_init 55 = .ok (.dup, 1) := by decide +kernel
theorem d_TypeFinder_Parser_init_56 : decode b_TypeFinder_Parser_init 56 = .ok (.iconst 4, 1) := by decide +kernel
theorem d_TypeFinder_Parser_init_57 : decode b_TypeFinder_Parser_init 57 = .ok (.iconst 4, 1) := by decide +kernel
theorem d_TypeFinder_Parser_init_58 : decode b_TypeFinder_Parser_init 58 = .ok (.iastore, 1) := by decide +kernel
theorem d_TypeFinder_Parser_init_59 : decode b_TypeFinder_Parser_init 59 = .ok (.dup, 1) := by decide +kernel
theorem d_TypeFinder_Parser_init_60 : decode b_TypeFinder_Parser_init 60 = .ok (.iconst 5, 1) := by decide +kernel
theorem d_TypeFinder_Parser_init_61 : decode b_TypeFinder_Parser_init 61 = .ok (.iconst 4, 1) := by decide +kernel
theorem d_TypeFinder_Parser_init_62 : decode b_TypeFinder_Parser_init 62 = .ok (.iastore, 1) := by decide +kernel
theorem d_TypeFinder_Parser_init_63 : decode b_TypeFinder_Parser_init 63 = .ok (.dup, 1) := by decide +kernel
theorem d_TypeFinder_Parser_init_64 : decode b_TypeFinder_Parser_init 64 = .ok (.bipush 6, 2) := by decide +kernel
theorem d_TypeFinder_Parser_init_66 : decode b_TypeFinder_Parser_init 66 = .ok (.iconst 5, 1) := by decide +kernel
theorem d_TypeFinder_Parser_init_67 : decode b_TypeFinder_Parser_init 67 = .ok (.iastore, 1) := by decide +kernel
theorem d_TypeFinder_Parser_init_68 : decode b_TypeFinder_Parser_init 68 = .ok (.dup, 1) := by decide +kernel
theorem d_TypeFinder_Parser_init_69 : decode b_TypeFinder_Parser_init 69 = .ok (.bipush 7, 2) := by decide +kernel
theorem d_TypeFinder_Parser_init_71 : decode b_TypeFinder_Parser_init 71 = .ok (.iconst (-1), 1) := by decide +kernel
theorem d_TypeFinder_Parser_init_72 : decode b_TypeFinder_Parser_init 72 = .ok (.iastore, 1) := by decide +kernel
theorem d_TypeFinder_Parser_init_73 : decode b_TypeFinder_Parser_init 73 = .ok (.dup, 1) := by decide +kernel
theorem d_TypeFinder_Parser_init_74 : decode b_TypeFinder_Parser_init 74 = .ok (.bipush 8, 2) := by decide +kernel
theorem d_TypeFinder_Parser_init_76 : decode b_TypeFinder_Parser_init 76 = .ok (.iconst (-1), 1) := by decide +kernel
theorem d_TypeFinder_Parser_init_77 : decode b_TypeFinder_Parser_init 77 = .ok (.iastore, 1) := by decide +kernel
theorem d_TypeFinder_Parser_init_78 : decode b_TypeFinder_Parser_init 78 = .ok (.dup, 1) := by decide +kernel
theorem d_TypeFinder_Parser_init_79 : decode b_TypeFinder_Parser_init 79 = .ok (.bipush 9, 2) := by decide +kernel
theorem d_TypeFinder_Parser_init_81 : decode b_TypeFinder_Parser_init 81 = .ok (.iconst (-1), 1) := by decide +kernel
theorem d_TypeFinder_Parser_init_82 : decode b_TypeFinder_Parser_init 82 = .ok (.iastore, 1) := by decide +kernel
theorem d_TypeFinder_Parser_init_83 : decode b_TypeFinder_Parser_init 83 = .ok (.putfield 27, 3) := by decide +kernel
theorem d_TypeFinder_Parser_init_86 : decode b_TypeFinder_Parser_init 86 = .ok (.aload_n 0, 1) := by decide +kernel
theorem d_TypeFinder_Parser_init_87 : decode b_TypeFinder_Parser_init 87 = .ok (.bipush 10, 2) := by decide +kernel
theorem d_TypeFinder_Parser_init_89 : decode b_TypeFinder_Parser_init 89 = .ok (.newarray .boolean, 2) := by decide +kernel
theorem d_TypeFinder_Parser_init_91 : decode b_TypeFinder_Parser_init 91 = .ok (.dup, 1) := by decide +kernel
theorem d_TypeFinder_Parser_init_92 : decode b_TypeFinder_Parser_init 92 = .ok (.iconst 0, 1) := by decide +kernel
theorem d_TypeFinder_Parser_init_93 : decode b_TypeFinder_Parser_init 93 = .ok (.iconst 0, 1) := by decide +kernel
theorem d_TypeFinder_Parser_init_94 : decode b_TypeFinder_Parser_init 94 = .ok (.bastore, 1) := by decide +kernel
theorem d_TypeFinder_Parser_init_95 : decode b_TypeFinder_Parser_init 95 = .ok (.dup, 1) := by decide +kernel
theorem d_TypeFinder_Parser_init_96 : decode b_TypeFinder_Parser_init 96 = .ok (.iconst 1, 1) := by decide +kernel
theorem d_TypeFinder_Parser_init_97 : decode b_TypeFinder_Parser_init 97 = .ok (.iconst 0, 1) := by decide +kernel
theorem d_TypeFinder_Parser_init_98 : decode b_TypeFinder_Parser_init 98 = .ok (.bastore, 1) := by decide +kernel
theorem d_TypeFinder_Parser_init_99 : decode b_TypeFinder_Parser_init 99 = .ok (.dup, 1) := by decide +kernel
theorem d_TypeFinder_Parser_init_100 : decode b_TypeFinder_Parser_init 100 = .ok (.iconst 2, 1) := by decide +kernel
theorem d_TypeFinder_Parser_init_101 : decode b_TypeFinder_Parser_init 101 = .ok (.iconst 0, 1) := by decide +kernel
theorem d_TypeFinder_Parser_init_102 : decode b_TypeFinder_Parser_init 102 = .ok (.bastore, 1) := by decide +kernel
theorem d_TypeFinder_Parser_init_103 : decode b_TypeFinder_Parser_init 103 = .ok (.dup, 1) := by decide +kernel
theorem d_TypeFinder_Parser_init_104 : decode b_TypeFinder_Parser_init 104 = .ok (.iconst 3, 1) := by decide +kernel
theorem d_TypeFinder_Parser_init_105 : decode b_TypeFinder_Parser_init 105 = .ok (.iconst 0, 1) := by decide +kernel
theorem d_TypeFinder_Parser_init_106 : decode b_TypeFinder_Parser_init 106 = .ok (.bastore, 1) := by decide +kernel
theorem d_TypeFinder_Parser_init_107 : decode b_TypeFinder_Parser_init 107 = .ok (.dup, 1) := by decide +kernel
theorem d_TypeFinder_Parser_init_108 : decode b_TypeFinder_Parser_init 108 = .ok (.iconst 4, 1) := by decide +kernel
theorem d_TypeFinder_Parser_init_109 : decode b_TypeFinder_Parser_init 109 = .ok (.iconst 0, 1) := by decide +kernel
theorem d_TypeFinder_Parser_init_110 : decode b_TypeFinder_Parser_init 110 = .ok (.bastore, 1) := by decide +kernel
theorem d_TypeFinder_Parser_init_111 : decode b_TypeFinder_Parser_init 111 = .ok (.dup, 1) := by decide +kernel
theorem d_TypeFinder_Parser_init_112 : decode b_TypeFinder_Parser_init 112 = .ok (.iconst 5, 1) := by decide +kernel
theorem d_TypeFinder_Parser_init_113 : decode b_TypeFinder_Parser_init 113 = .ok (.iconst 0, 1) := by decide +kernel
theorem d_TypeFinder_Parser_init_114 : decode b_TypeFinder_Parser_init 114 = .ok (.bastore, 1) := by decide +kernel
theorem d_TypeFinder_Parser_init_115 : decode b_TypeFinder_Parser_init 115 = .ok (.dup, 1) := by decide +kernel
theorem d_TypeFinder_Parser_init_116 : decode b_TypeFinder_Parser_init 116 = .ok (.bipush 6, 2) := by decide +kernel
theorem d_TypeFinder_Parser_init_118 : decode b_TypeFinder_Parser_init 118 = .ok (.iconst 1, 1) := by decide +kernel
theorem d_TypeFinder_Parser_init_119 : decode b_TypeFinder_Parser_init 119 = .ok (.bastore, 1) := by decide +kernel
theorem d_TypeFinder_Parser_init_120 : decode b_TypeFinder_Parser_init 120 = .ok (.dup, 1) := by decide +kernel
theorem d_TypeFinder_Parser_init_121 : decode b_TypeFinder_Parser_init 121 = .ok (.bipush 7, 2) := by decide +kernel
theorem d_TypeFinder_Parser_init_123 : decode b_TypeFinder_Parser_init 123 = .ok (.iconst 0, 1) := by decide +kernel
theorem d_TypeFinder_Parser_init_124 : decode b_TypeFinder_Parser_init 124 = .ok (.bastore, 1) := by decide +kernel
theorem d_TypeFinder_Parser_init_125 : decode b_TypeFinder_Parser_init 125 = .ok (.dup, 1) := by decide +kernel
theorem d_TypeFinder_Parser_init_126 : decode b_TypeFinder_Parser_init 126 = .ok (.bipush 8, 2) := by decide +kernel
theorem d_TypeFinder_Parser_init_128 : decode b_TypeFinder_Parser_init 128 = .ok (.iconst 0, 1) := by decide +kernel
theorem d_TypeFinder_Parser_init_129 : decode b_TypeFinder_Parser_init 129 = .ok (.bastore, 1) := by decide +kernel
theorem d_TypeFinder_Parser_init_130 : decode b_TypeFinder_Parser_init 130 = .ok (.dup, 1) := by decide +kernel
theorem d_TypeFinder_Parser_init_131 : decode b_TypeFinder_Parser_init 131 = .ok (.bipush 9, 2) := by decide +kernel
theorem d_TypeFinder_Parser_init_133 : decode b_TypeFinder_Parser_init 133 = .ok (.iconst 0, 1) := by decide +kernel
theorem d_TypeFinder_Parser_init_134 : decode b_TypeFinder_Parser_init 134 = .ok (.bastore, 1) := by decide +kernel
theorem d_TypeFinder_Parser_init_135 : decode b_TypeFinder_Parser_init 135 = .ok (.putfield 31, 3) := by decide +kernel
theorem d_TypeFinder_Parser_init_138 : decode b_TypeFinder_Parser_init 138 = .ok (.return_, 1) := by decide +kernel
theorem d_TypeFinder_Parser_question_0 : decode b_TypeFinder_Parser_question 0 = .ok (.aload_n 0, 1) := by decide +kernel
theorem d_TypeFinder_Parser_question_1 : decode b_TypeFinder_Parser_question 1 = .ok (.getfield 12, 3) := by decide +kernel
theorem d_TypeFinder_Parser_question_4 : decode b_TypeFinder_Parser_question 4 = .ok (.aload_n 1, 1) := by decide +kernel
theorem d_TypeFinder_Parser_question_5 : decode b_TypeFinder_Parser_question 5 = .ok (.iload_n 2, 1) := by decide +kernel
theorem d_TypeFinder_Parser_question_6 : decode b_TypeFinder_Parser_question 6 = .ok (.invokevirtual 43, 3) := by decide +kernel
theorem d_TypeFinder_Parser_question_9 : decode b_TypeFinder_Parser_question 9 = .ok (.aload_n 0, 1) := by decide +kernel
theorem d_TypeFinder_Parser_question_10 : decode b_TypeFinder_Parser_question 10 = .ok (.iconst 0, 1) := by decide +kernel
theorem d_TypeFinder_Parser_question_11 : decode b_TypeFinder_Parser_question 11 = .ok (.invokevirtual 70, 3) := by decide +kernel
theorem d_TypeFinder_Tokens_accept_0 : decode b_TypeFinder_Tokens_accept 0 = .ok (.aload_n 0, 1) := by decide +kernel
theorem d_TypeFinder_Tokens_accept_1 : decode b_TypeFinder_Tokens_accept 1 = .ok (.getfield 9, 3) := by decide +kernel
theorem d_TypeFinder_Tokens_accept_4 : decode b_TypeFinder_Tokens_accept 4 = .ok (.aload_n 0, 1) := by decide +kernel
theorem d_TypeFinder_Tokens_accept_5 : decode b_TypeFinder_Tokens_accept 5 = .ok (.getfield 46, 3) := by decide +kernel
theorem d_TypeFinder_Tokens_accept_8 : decode b_TypeFinder_Tokens_accept 8 = .ok (.iaload, 1) := by decide +kernel
theorem d_TypeFinder_Tokens_accept_9 : decode b_TypeFinder_Tokens_accept 9 = .ok (.iload_n 1, 1) := by decide +kernel
theorem d_TypeFinder_Tokens_accept_10 : decode b_TypeFinder_Tokens_accept 10 = .ok (.if_icmp .eq 5, 3) := by decide +kernel
theorem d_TypeFinder_Tokens_accept_13 : decode b_TypeFinder_Tokens_accept 13 = .ok (.iconst 0, 1) := by decide +kernel
theorem d_TypeFinder_Tokens_accept_14 : decode b_TypeFinder_Tokens_accept 14 = .ok (.ireturn, 1) := by decide +kernel
theorem d_TypeFinder_Tokens_init_0 : decode b_TypeFinder_Tokens_init 0 = .ok (.aload_n 0, 1) := by decide +kernel
theorem d_TypeFinder_Tokens_init_1 : decode b_TypeFinder_Tokens_init 1 = .ok (.invokespecial 3, 3) := by decide +kernel
theorem d_TypeFinder_Tokens_init_4 : decode b_TypeFinder_Tokens_init 4 = .ok (.aload_n 0, 1) := by decide +kernel
theorem d_TypeFinder_Tokens_init_5 : decode b_TypeFinder_Tokens_init 5 = .ok (.bipush 81, 2) := by decide +kernel
theorem d_TypeFinder_Tokens_init_7 : decode b_TypeFinder_Tokens_init 7 = .ok (.newarray .int, 2) := by decide +kernel
theorem d_TypeFinder_Tokens_init_9 : decode b_TypeFinder_Tokens_init 9 = .ok (.putfield 9, 3) := by decide +kernel
theorem d_TypeFinder_Tokens_init_12 : decode b_TypeFinder_Tokens_init 12 = .ok (.aload_n 0, 1) := by decide +kernel
theorem d_TypeFinder_Tokens_init_13 : decode b_TypeFinder_Tokens_init 13 = .ok (.bipush 81, 2) := by decide +kernel
theorem d_TypeFinder_Tokens_init_15 : decode b_TypeFinder_Tokens_init 15 = .ok (.newarray .long, 2) := by decide +kernel
theorem d_TypeFinder_Tokens_init_17 : decode b_TypeFinder_Tokens_init 17 = .ok (.putfield 15, 3) := by decide +kernel
theorem d_TypeFinder_Tokens_init_20 : decode b_TypeFinder_Tokens_init 20 = .ok (.aload_n 0, 1) := by decide +kernel
theorem d_TypeFinder_Tokens_init_21 : decode b_TypeFinder_Tokens_init 21 = .ok (.bipush 10, 2) := by decide +kernel
theorem d_TypeFinder_Tokens_init_23 : decode b_TypeFinder_Tokens_init 23 = .ok (.newarray .long, 2) := by decide +kernel
theorem d_TypeFinder_Tokens_init_25 : decode b_TypeFinder_Tokens_init 25 = .ok (.putfield 19, 3) := by decide +kernel
theorem d_TypeFinder_Tokens_init_28 : decode b_TypeFinder_Tokens_init 28 = .ok (.iconst 0, 1) := by decide +kernel
theorem d_TypeFinder_Tokens_init_29 : decode b_TypeFinder_Tokens_init 29 = .ok (.istore_n 1, 1) := by decide +kernel
theorem d_TypeFinder_Tokens_init_30 : decode b_TypeFinder_Tokens_init 30 = .ok (.iconst 0, 1) := by decide +kernel
theorem d_TypeFinder_Tokens_init_31 : decode b_TypeFinder_Tokens_init 31 = .ok (.istore_n 2, 1) := by decide +kernel
theorem d_TypeFinder_Tokens_init_32 : decode b_TypeFinder_Tokens_init 32 = .ok (.iconst 0, 1) := by decide +kernel
