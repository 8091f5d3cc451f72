theorem d_TypeFinderModel_expression_11 : decode b_TypeFinderModel_expression 11 = .ok (.iconst 0, 1) := by decide +kernel
theorem d_TypeFinderModel_expression_12 : decode b_TypeFinderModel_expression 12 = .ok (.putfield 283, 3) := by decide +kernel
theorem d_TypeFinderModel_expression_15 : decode b_TypeFinderModel_expression 15 = .ok (.aload_n 0, 1) := by decide +kernel
theorem d_TypeFinderModel_expression_16 : decode b_TypeFinderModel_expression 16 = .ok (.iconst 0, 1) := by decide +kernel
theorem d_TypeFinderModel_expression_17 : decode b_TypeFinderModel_expression 17 = .ok (.putfield 289, 3) := by decide +kernel
theorem d_TypeFinderModel_expression_20 : decode b_TypeFinderModel_expression 20 = .ok (.aload_n 0, 1) := by decide +kernel
theorem d_TypeFinderModel_expression_21 : decode b_TypeFinderModel_expression 21 = .ok (.getfield 230, 3) := by decide +kernel
theorem d_TypeFinderModel_expression_24 : decode b_TypeFinderModel_expression 24 = .ok (.ifCond .ne 54, 3) := by decide +kernel
theorem d_TypeFinderModel_expression_27 : decode b_TypeFinderModel_expression 27 = .ok (.aload_n 0, 1) := by decide +kernel
theorem d_TypeFinderModel_expression_28 : decode b_TypeFinderModel_expression 28 = .ok (.getfield 283, 3) := by decide +kernel
theorem d_TypeFinderModel_expression_31 : decode b_TypeFinderModel_expression 31 = .ok (.iconst 2, 1) := by decide +kernel
theorem d_TypeFinderModel_expression_32 : decode b_TypeFinderModel_expression 32 = .ok (.if_icmp .ne 10, 3) := by decide +kernel
theorem d_TypeFinderModel_expression_42 : decode b_TypeFinderModel_expression 42 = .ok (.aload_n 0, 1) := by decide +kernel
theorem d_TypeFinderModel_expression_43 : decode b_TypeFinderModel_expression 43 = .ok (.getfield 283, 3) := by decide +kernel
theorem d_TypeFinderModel_expression_46 : decode b_TypeFinderModel_expression 46 = .ok (.ifCond .ne 10, 3) := by decide +kernel
theorem d_TypeFinderModel_expression_49 : decode b_TypeFinderModel_expression 49 = .ok (.aload_n 0, 1) := by decide +kernel
theorem d_TypeFinderModel_expression_50 : decode b_TypeFinderModel_expression 50 = .ok (.invokevirtual 292, 3) := by decide +kernel
theorem d_TypeFinderModel_expression_53 : decode b_TypeFinderModel_expression 53 = .ok (.goto (-33), 3) := by decide +kernel
theorem d_TypeFinderModel_expression_56 : decode b_TypeFinderModel_expression 56 = .ok (.aload_n 0, 1) := by decide +kernel
theorem d_TypeFinderModel_expression_57 : decode b_TypeFinderModel_expression 57 = .ok (.getfield 283, 3) := by decide +kernel
theorem d_TypeFinderModel_expression_60 : decode b_TypeFinderModel_expression 60 = .ok (.iconst 1, 1) := by decide +kernel
theorem d_TypeFinderModel_expression_61 : decode b_TypeFinderModel_expression 61 = .ok (.if_icmp .ne 10, 3) := by decide +kernel
theorem d_TypeFinderModel_expression_64 : decode b_TypeFinderModel_expression 64 = .ok (.aload_n 0, 1) := by decide +kernel
theorem d_TypeFinderModel_expression_65 : decode b_TypeFinderModel_expression 65 = .ok (.invokevirtual 295, 3) := by decide +kernel
theorem d_TypeFinderModel_expression_68 : decode b_TypeFinderModel_expression 68 = .ok (.goto (-48), 3) := by decide +kernel
theorem d_TypeFinderModel_expression_78 : decode b_TypeFinderModel_expression 78 = .ok (.return_, 1) := by decide +kernel
theorem d_TypeFinderModel_heading_0 : decode b_TypeFinderModel_heading 0 = .ok (.iconst 0, 1) := by decide +kernel
theorem d_TypeFinderModel_heading_1 : decode b_TypeFinderModel_heading 1 = .ok (.istore_n 1, 1) := by decide +kernel
theorem d_TypeFinderModel_heading_2 : decode b_TypeFinderModel_heading 2 = .ok (.aload_n 0, 1) := by decide +kernel
theorem d_TypeFinderModel_heading_3 : decode b_TypeFinderModel_heading 3 = .ok (.getfield 13, 3) := by decide +kernel
theorem d_TypeFinderModel_heading_6 : decode b_TypeFinderModel_heading 6 = .ok (.iconst 1, 1) := by decide +kernel
theorem d_TypeFinderModel_heading_7 : decode b_TypeFinderModel_heading 7 = .ok (.iaload, 1) := by decide +kernel
theorem d_TypeFinderModel_heading_8 : decode b_TypeFinderModel_heading 8 = .ok (.iconst 4, 1) := by decide +kernel
theorem d_TypeFinderModel_heading_9 : decode b_TypeFinderModel_heading 9 = .ok (.if_icmp .ne 129, 3) := by decide +kernel
theorem d_TypeFinderModel_heading_138 : decode b_TypeFinderModel_heading 138 = .ok (.aload_n 0, 1) := by decide +kernel
theorem d_TypeFinderModel_heading_139 : decode b_TypeFinderModel_heading 139 = .ok (.aload_n 0, 1) := by decide +kernel
theorem d_TypeFinderModel_heading_140 : decode b_TypeFinderModel_heading 140 = .ok (.getfield 16, 3) := by decide +kernel
theorem d_TypeFinderModel_heading_143 : decode b_TypeFinderModel_heading 143 = .ok (.iconst 0, 1) := by decide +kernel
theorem d_TypeFinderModel_heading_144 : decode b_TypeFinderModel_heading 144 = .ok (.iaload, 1) := by decide +kernel
theorem d_TypeFinderModel_heading_145 : decode b_TypeFinderModel_heading 145 = .ok (.putfield 519, 3) := by decide +kernel
theorem d_TypeFinderModel_heading_148 : decode b_TypeFinderModel_heading 148 = .ok (.aload_n 0, 1) := by decide +kernel
theorem d_TypeFinderModel_heading_149 : decode b_TypeFinderModel_heading 149 = .ok (.iconst 1, 1) := by decide +kernel
theorem d_TypeFinderModel_heading_150 : decode b_TypeFinderModel_heading 150 = .ok (.invokevirtual 267, 3) := by decide +kernel
theorem d_TypeFinderModel_heading_153 : decode b_TypeFinderModel_heading 153 = .ok (.aload_n 0, 1) := by decide +kernel
theorem d_TypeFinderModel_heading_154 : decode b_TypeFinderModel_heading 154 = .ok (.invokevirtual 263, 3) := by decide +kernel
theorem d_TypeFinderModel_heading_157 : decode b_TypeFinderModel_heading 157 = .ok (.iconst 1, 1) := by decide +kernel
theorem d_TypeFinderModel_heading_158 : decode b_TypeFinderModel_heading 158 = .ok (.if_icmp .ne 16, 3) := by decide +kernel
theorem d_TypeFinderModel_heading_174 : decode b_TypeFinderModel_heading 174 = .ok (.aload_n 0, 1) := by decide +kernel
theorem d_TypeFinderModel_heading_175 : decode b_TypeFinderModel_heading 175 = .ok (.getfield 256, 3) := by decide +kernel
theorem d_TypeFinderModel_heading_178 : decode b_TypeFinderModel_heading 178 = .ok (.iconst 1, 1) := by decide +kernel
theorem d_TypeFinderModel_heading_179 : decode b_TypeFinderModel_heading 179 = .ok (.isub, 1) := by decide +kernel
theorem d_TypeFinderModel_heading_180 : decode b_TypeFinderModel_heading 180 = .ok (.istore_n 1, 1) := by decide +kernel
theorem d_TypeFinderModel_heading_181 : decode b_TypeFinderModel_heading 181 = .ok (.iconst 0, 1) := by decide +kernel
theorem d_TypeFinderModel_heading_182 : decode b_TypeFinderModel_heading 182 = .ok (.istore_n 2, 1) := by decide +kernel
theorem d_TypeFinderModel_heading_183 : decode b_TypeFinderModel_heading 183 = .ok (.iload_n 2, 1) := by decide +kernel
theorem d_TypeFinderModel_heading_184 : decode b_TypeFinderModel_heading 184 = .ok (.aload_n 0, 1) := by decide +kernel
theorem d_TypeFinderModel_heading_185 : decode b_TypeFinderModel_heading 185 = .ok (.getfield 256, 3) := by decide +kernel
theorem d_TypeFinderModel_heading_188 : decode b_TypeFinderModel_heading 188 = .ok (.if_icmp .ge 53, 3) := by decide +kernel
theorem d_TypeFinderModel_heading_241 : decode b_TypeFinderModel_heading 241 = .ok (.aload_n 0, 1) := by decide +kernel
theorem d_TypeFinderModel_heading_242 : decode b_TypeFinderModel_heading 242 = .ok (.bipush 20, 2) := by decide +kernel
theorem d_TypeFinderModel_heading_244 : decode b_TypeFinderModel_heading 244 = .ok (.invokevirtual 267, 3) := by decide +kernel
theorem d_TypeFinderModel_heading_247 : decode b_TypeFinderModel_heading 247 = .ok (.iconst 0, 1) := by decide +kernel
theorem d_TypeFinderModel_heading_248 : decode b_TypeFinderModel_heading 248 = .ok (.istore_n 2, 1) := by decide +kernel
theorem d_TypeFinderModel_heading_249 : decode b_TypeFinderModel_heading 249 = .ok (.iload_n 2, 1) := by decide +kernel
theorem d_TypeFinderModel_heading_250 : decode b_TypeFinderModel_heading 250 = .ok (.iload_n 1, 1) := by decide +kernel
theorem d_TypeFinderModel_heading_251 : decode b_TypeFinderModel_heading 251 = .ok (.if_icmp .gt 33, 3) := by decide +kernel
theorem d_TypeFinderModel_heading_284 : decode b_TypeFinderModel_heading 284 = .ok (.iload_n 1, 1) := by decide +kernel
theorem d_TypeFinderModel_heading_285 : decode b_TypeFinderModel_heading 285 = .ok (.ireturn, 1) := by decide +kernel
theorem d_TypeFinderModel_init_0 : decode b_TypeFinderModel_init 0 = .ok (.aload_n 0, 1) := by decide +kernel
theorem d_TypeFinderModel_init_1 : decode b_TypeFinderModel_init 1 = .ok (.invokespecial 1, 3) := by decide +kernel
theorem d_TypeFinderModel_init_4 : decode b_TypeFinderModel_init 4 = .ok (.aload_n 0, 1) := by decide +kernel
theorem d_TypeFinderModel_init_5 : decode b_TypeFinderModel_init 5 = .ok (.bipush 80, 2) := by decide +kernel
theorem d_TypeFinderModel_init_7 : decode b_TypeFinderModel_init 7 = .ok (.newarray .int, 2) := by decide +kernel
theorem d_TypeFinderModel_init_9 : decode b_TypeFinderModel_init 9 = .ok (.putfield 7, 3) := by decide +kernel
theorem d_TypeFinderModel_init_12 : decode b_TypeFinderModel_init 12 = .ok (.aload_n 0, 1) := by decide +kernel
theorem d_TypeFinderModel_init_13 : decode b_TypeFinderModel_init 13 = .ok (.bipush 82, 2) := by decide +kernel
theorem d_TypeFinderModel_init_15 : decode b_TypeFinderModel_init 15 = .ok (.newarray .int, 2) := by decide +kernel
theorem d_TypeFinderModel_init_17 : decode b_TypeFinderModel_init 17 = .ok (.putfield 13, 3) := by decide +kernel
theorem d_TypeFinderModel_init_20 : decode b_TypeFinderModel_init 20 = .ok (.aload_n 0, 1) := by decide +kernel
theorem d_TypeFinderModel_init_21 : decode b_TypeFinderModel_init 21 = .ok (.bipush 82, 2) := by decide +kernel
theorem d_TypeFinderModel_init_23 : decode b_TypeFinderModel_init 23 = .ok (.newarray .int, 2) := by decide +kernel
theorem d_TypeFinderModel_init_25 : decode b_TypeFinderModel_init 25 = .ok (.putfield 16, 3) := by decide +kernel
theorem d_TypeFinderModel_init_28 : decode b_TypeFinderModel_init 28 = .ok (.aload_n 0, 1) := by decide +kernel
theorem d_TypeFinderModel_init_29 : decode b_TypeFinderModel_init 29 = .ok (.bipush 10, 2) := by decide +kernel
theorem d_TypeFinderModel_init_31 : decode b_TypeFinderModel_init 31 = .ok (.newarray .int, 2) := by decide +kernel
theorem d_TypeFinderModel_init_33 : decode b_TypeFinderModel_init 33 = .ok (.dup, 1) := by decide +kernel
theorem d_TypeFinderModel_init_34 : decode b_TypeFinderModel_init 34 = .ok (.iconst 0, 1) := by decide +kernel
theorem d_TypeFinderModel_init_35 : decode b_TypeFinderModel_init 35 = .ok (.bipush 6, 2) := by decide +kernel
theorem d_TypeFinderModel_init_37 : decode b_TypeFinderModel_init 37 = .ok (.iastore, 1) := by decide +kernel
theorem d_TypeFinderModel_init_38 : decode b_TypeFinderModel_init 38 = .ok (.dup, 1) := by decide +kernel
theorem d_TypeFinderModel_init_39 : decode b_TypeFinderModel_init 39 = .ok (.iconst 1, 1) := by decide +kernel
theorem d_TypeFinderModel_init_40 : decode b_TypeFinderModel_init 40 = .ok (.bipush 6, 2) := by decide +kernel
theorem d_TypeFinderModel_init_42 : decode b_TypeFinderModel_init 42 = .ok (.iastore, 1) := by decide +kernel
theorem d_TypeFinderModel_init_43 : decode b_TypeFinderModel_init 43 = .ok (.dup, 1) := by decide +kernel
theorem d_TypeFinderModel_init_44 : decode b_TypeFinderModel_init 44 = .ok (.iconst 2, 1) := by decide +kernel
theorem d_TypeFinderModel_init_45 : decode b_TypeFinderModel_init 45 = .ok (.bipush 7, 2) := by decide +kernel
theorem d_TypeFinderModel_init_47 : decode b_TypeFinderModel_init 47 = .ok (.iastore, 1) := by decide +kernel
theorem d_TypeFinderModel_init_48 : decode b_TypeFinderModel_init 48 = .ok (.dup, 1) := by decide +kernel
theorem d_TypeFinderModel_init_49 : decode b_TypeFinderModel_init 49 = .ok (.iconst 3, 1) := by decide +kernel
theorem d_TypeFinderModel_init_50 : decode b_TypeFinderModel_init 50 = .ok (.bipush 7, 2) := by decide +kernel
theorem d_TypeFinderModel_init_52 : decode b_TypeFinderModel_init 52 = .ok (.iastore, 1) := by decide +kernel
theorem d_TypeFinderModel_init_53 : decode b_TypeFinderModel_init 53 = .ok (.dup, 1) := by decide +kernel
theorem d_TypeFinderModel_init_54 : decode b_TypeFinderModel_init 54 = .ok (.iconst 4, 1) := by decide +kernel
theorem d_TypeFinderModel_init_55 : decode b_TypeFinderModel_init 55 = .ok (.iconst 4, 1) := by decide +kernel
theorem d_TypeFinderModel_init_56 : decode b_TypeFinderModel_init 56 = .ok (.iastore, 1) := by decide +kernel
theorem d_TypeFinderModel_init_57 : decode b_TypeFinderModel_init 57 = .ok (.dup, 1) := by decide +kernel
theorem d_TypeFinderModel_init_58 : decode b_TypeFinderModel_init 58 = .ok (.iconst 5, 1) := by decide +kernel
theorem d_TypeFinderModel_init_59 : decode b_TypeFinderModel_init 59 = .ok (.iconst 4, 1) := by decide +kernel
theorem d_TypeFinderModel_init_60 : decode b_TypeFinderModel_init 60 = .ok (.iastore, 1) := by decide +kernel
theorem d_TypeFinderModel_init_61 : decode b_TypeFinderModel_init 61 = .ok (.dup, 1) := by decide +kernel
theorem d_TypeFinderModel_init_62 : decode b_TypeFinderModel_init 62 = .ok (.bipush 6, 2) := by decide +kernel
theorem d_TypeFinderModel_init_64 : decode b_TypeFinderModel_init 64 = .ok (.iconst 5, 1) := by decide +kernel
theorem d_TypeFinderModel_init_65 : decode b_TypeFinderModel_init 65 = .ok (.iastore, 1) := by decide +kernel
theorem d_TypeFinderModel_init_66 : decode b_TypeFinderModel_init 66 = .ok (.dup, 1) := by decide +kernel
theorem d_TypeFinderModel_init_67 : decode b_TypeFinderModel_init 67 = .ok (.bipush 7, 2) := by decide +kernel
theorem d_TypeFinderModel_init_69 : decode b_TypeFinderModel_init 69 = .ok (.iconst (-1), 1) := by decide +kernel
theorem d_TypeFinderModel_init_70 : decode b_TypeFinderModel_init 70 = .ok (.iastore, 1) := by decide +kernel
theorem d_TypeFinderModel_init_71 : decode b_TypeFinderModel_init 71 = .ok (.dup, 1) := by decide +kernel
theorem d_TypeFinderModel_init_72 : decode b_TypeFinderModel_init 72 = .ok (.bipush 8, 2) := by decide +kernel
theorem d_TypeFinderModel_init_74 : decode b_TypeFinderModel_init 74 = .ok (.iconst (-1), 1) := by decide +kernel
theorem d_TypeFinderModel_init_75 : decode b_TypeFinderModel_init 75 = .ok (.iastore, 1) := by decide +kernel
theorem d_TypeFinderModel_init_76 : decode b_TypeFinderModel_init 76 = .ok (.dup, 1) := by decide +kernel
theorem d_TypeFinderModel_init_77 : decode b_TypeFinderModel_init 77 = .ok (.bipush 9, 2) := by decide +kernel
theorem d_TypeFinderModel_init_79 : decode b_TypeFinderModel_init 79 = .ok (.iconst (-1), 1) := by decide +kernel
theorem d_TypeFinderModel_init_80 : decode b_TypeFinderModel_init 80 = .ok (.iastore, 1) := by decide +kernel
theorem d_TypeFinderModel_init_81 : decode b_TypeFinderModel_init 81 = .ok (.putfield 19, 3) := by decide +kernel
theorem d_TypeFinderModel_init_84 : decode b_TypeFinderModel_init 84 = .ok (.aload_n 0, 1) := by decide +kernel
theorem d_TypeFinderModel_init_85 : decode b_TypeFinderModel_init 85 = .ok (.bipush 10, 2) := by decide +kernel
theorem d_TypeFinderModel_init_87 : decode b_TypeFinderModel_init 87 = .ok (.newarray .boolean, 2) := by decide +kernel
theorem d_TypeFinderModel_init_89 : decode b_TypeFinderModel_init 89 = .ok (.dup, 1) := by decide +kernel
theorem d_TypeFinderModel_init_90 : decode b_TypeFinderModel_init 90 = .ok (.iconst 0, 1) := by decide +kernel
theorem d_TypeFinderModel_init_91 : decode b_TypeFinderModel_init 91 = .ok (.iconst 0, 1) := by decide +kernel
theorem d_TypeFinderModel_init_92 : decode b_TypeFinderModel_init 92 = .ok (.bastore, 1) := by decide +kernel
theorem d_TypeFinderModel_init_93 : decode b_TypeFinderModel_init 93 = .ok (.dup, 1) := by decide +kernel
theorem d_TypeFinderModel_init_94 : decode b_TypeFinderModel_init 94 = .ok (.iconst 1, 1) := by decide +kernel
theorem d_TypeFinderModel_init_95 : decode b_TypeFinderModel_init 95 = .ok (.iconst 0, 1) := by decide +kernel
theorem d_TypeFinderModel_init_96 : decode b_TypeFinderModel_init 96 = .ok (.bastore, 1) := by decide +kernel
theorem d_TypeFinderModel_init_97 : decode b_TypeFinderModel_init 97 = .ok (.dup, 1) := by decide +kernel
theorem d_TypeFinderModel_init_98 : decode b_TypeFinderModel_init 98 = .ok (.iconst 2, 1) := by decide +kernel
theorem d_TypeFinderModel_init_99 : decode b_TypeFinderModel_init 99 = .ok (.iconst 0, 1) := by decide +kernel
theorem d_TypeFinderModel_init_100 : decode b_TypeFinderModel_init 100 = .ok (.bastore, 1) := by decide +kernel
theorem d_TypeFinderModel_init_101 : decode b_TypeFinderModel_init 101 = .ok (.dup, 1) := by decide +kernel
theorem d_TypeFinderModel_init_102 : decode b_TypeFinderModel_init 102 = .ok (.iconst 3, 1) := by decide +kernel
theorem d_TypeFinderModel_init_103 : decode b_TypeFinderModel_init 103 = .ok (.iconst 0, 1) := by decide +kernel
theorem d_TypeFinderModel_init_104 : decode b_TypeFinderModel_init 104 = .ok (.bastore, 1) := by decide +kernel
theorem d_TypeFinderModel_init_105 : decode b_TypeFinderModel_init 105 = .ok (.dup, 1) := by decide +kernel
theorem d_TypeFinderModel_init_106 : decode b_TypeFinderModel_init 106 = .ok (.iconst 4, 1) := by decide +kernel
theorem d_TypeFinderModel_init_107 : decode b_TypeFinderModel_init 107 = .ok (.iconst 0, 1) := by decide +kernel
theorem d_TypeFinderModel_init_108 : decode b_TypeFinderModel_init 108 = .ok (.bastore, 1) := by decide +kernel
theorem d_TypeFinderModel_init_109 : decode b_TypeFinderModel_init 109 = .ok (.dup, 1) := by decide +kernel
