theorem d_TypeFinderModel_beginExpression_17 : decode b_TypeFinderModel_beginExpression 17 = .ok (.bipush 12, 2) := by decide +kernel
theorem d_TypeFinderModel_beginExpression_19 : decode b_TypeFinderModel_beginExpression 19 = .ok (.if_icmp .le 7, 3) := by decide +kernel
theorem d_TypeFinderModel_beginExpression_26 : decode b_TypeFinderModel_beginExpression 26 = .ok (.iconst 0, 1) := by decide +kernel
theorem d_TypeFinderModel_beginExpression_27 : decode b_TypeFinderModel_beginExpression 27 = .ok (.putfield 230, 3) := by decide +kernel
theorem d_TypeFinderModel_beginExpression_30 : decode b_TypeFinderModel_beginExpression 30 = .ok (.iload_n 1, 1) := by decide +kernel
theorem d_TypeFinderModel_beginExpression_31 : decode b_TypeFinderModel_beginExpression 31 = .ok (.bipush 10, 2) := by decide +kernel
theorem d_TypeFinderModel_beginExpression_33 : decode b_TypeFinderModel_beginExpression 33 = .ok (.if_icmp .ne 42, 3) := by decide +kernel
theorem d_TypeFinderModel_beginExpression_75 : decode b_TypeFinderModel_beginExpression 75 = .ok (.iload_n 1, 1) := by decide +kernel
theorem d_TypeFinderModel_beginExpression_76 : decode b_TypeFinderModel_beginExpression 76 = .ok (.bipush 11, 2) := by decide +kernel
theorem d_TypeFinderModel_beginExpression_78 : decode b_TypeFinderModel_beginExpression 78 = .ok (.if_icmp .ne 20, 3) := by decide +kernel
theorem d_TypeFinderModel_beginExpression_98 : decode b_TypeFinderModel_beginExpression 98 = .ok (.iload_n 1, 1) := by decide +kernel
theorem d_TypeFinderModel_beginExpression_99 : decode b_TypeFinderModel_beginExpression 99 = .ok (.bipush 13, 2) := by decide +kernel
theorem d_TypeFinderModel_beginExpression_101 : decode b_TypeFinderModel_beginExpression 101 = .ok (.if_icmp .ne 23, 3) := by decide +kernel
theorem d_TypeFinderModel_beginExpression_124 : decode b_TypeFinderModel_beginExpression 124 = .ok (.iload_n 1, 1) := by decide +kernel
theorem d_TypeFinderModel_beginExpression_125 : decode b_TypeFinderModel_beginExpression 125 = .ok (.bipush 16, 2) := by decide +kernel
theorem d_TypeFinderModel_beginExpression_127 : decode b_TypeFinderModel_beginExpression 127 = .ok (.if_icmp .ne 24, 3) := by decide +kernel
theorem d_TypeFinderModel_beginExpression_151 : decode b_TypeFinderModel_beginExpression 151 = .ok (.aload_n 0, 1) := by decide +kernel
theorem d_TypeFinderModel_beginExpression_152 : decode b_TypeFinderModel_beginExpression 152 = .ok (.bipush 9, 2) := by decide +kernel
theorem d_TypeFinderModel_beginExpression_154 : decode b_TypeFinderModel_beginExpression 154 = .ok (.aload_n 0, 1) := by decide +kernel
theorem d_TypeFinderModel_beginExpression_155 : decode b_TypeFinderModel_beginExpression 155 = .ok (.getfield 289, 3) := by decide +kernel
theorem d_TypeFinderModel_beginExpression_158 : decode b_TypeFinderModel_beginExpression 158 = .ok (.iconst 0, 1) := by decide +kernel
theorem d_TypeFinderModel_beginExpression_159 : decode b_TypeFinderModel_beginExpression 159 = .ok (.invokevirtual 308, 3) := by decide +kernel
theorem d_TypeFinderModel_beginExpression_162 : decode b_TypeFinderModel_beginExpression 162 = .ok (.return_, 1) := by decide +kernel
theorem d_TypeFinderModel_chain_0 : decode b_TypeFinderModel_chain 0 = .ok (.aload_n 0, 1) := by decide +kernel
theorem d_TypeFinderModel_chain_1 : decode b_TypeFinderModel_chain 1 = .ok (.getfield 274, 3) := by decide +kernel
theorem d_TypeFinderModel_chain_4 : decode b_TypeFinderModel_chain 4 = .ok (.iconst 1, 1) := by decide +kernel
theorem d_TypeFinderModel_chain_5 : decode b_TypeFinderModel_chain 5 = .ok (.isub, 1) := by decide +kernel
theorem d_TypeFinderModel_chain_6 : decode b_TypeFinderModel_chain 6 = .ok (.istore_n 1, 1) := by decide +kernel
theorem d_TypeFinderModel_chain_7 : decode b_TypeFinderModel_chain 7 = .ok (.aload_n 0, 1) := by decide +kernel
theorem d_TypeFinderModel_chain_8 : decode b_TypeFinderModel_chain 8 = .ok (.invokevirtual 263, 3) := by decide +kernel
theorem d_TypeFinderModel_chain_11 : decode b_TypeFinderModel_chain 11 = .ok (.istore_n 2, 1) := by decide +kernel
theorem d_TypeFinderModel_chain_12 : decode b_TypeFinderModel_chain 12 = .ok (.iload_n 2, 1) := by decide +kernel
theorem d_TypeFinderModel_chain_13 : decode b_TypeFinderModel_chain 13 = .ok (.bipush 22, 2) := by decide +kernel
theorem d_TypeFinderModel_chain_15 : decode b_TypeFinderModel_chain 15 = .ok (.if_icmp .ne 24, 3) := by decide +kernel
theorem d_TypeFinderModel_chain_39 : decode b_TypeFinderModel_chain 39 = .ok (.aload_n 0, 1) := by decide +kernel
theorem d_TypeFinderModel_chain_40 : decode b_TypeFinderModel_chain 40 = .ok (.iload_n 2, 1) := by decide +kernel
theorem d_TypeFinderModel_chain_41 : decode b_TypeFinderModel_chain 41 = .ok (.invokevirtual 314, 3) := by decide +kernel
theorem d_TypeFinderModel_chain_44 : decode b_TypeFinderModel_chain 44 = .ok (.ifCond .eq 63, 3) := by decide +kernel
theorem d_TypeFinderModel_chain_107 : decode b_TypeFinderModel_chain 107 = .ok (.aload_n 0, 1) := by decide +kernel
theorem d_TypeFinderModel_chain_108 : decode b_TypeFinderModel_chain 108 = .ok (.getfield 90, 3) := by decide +kernel
theorem d_TypeFinderModel_chain_111 : decode b_TypeFinderModel_chain 111 = .ok (.iload_n 1, 1) := by decide +kernel
theorem d_TypeFinderModel_chain_112 : decode b_TypeFinderModel_chain 112 = .ok (.iaload, 1) := by decide +kernel
theorem d_TypeFinderModel_chain_113 : decode b_TypeFinderModel_chain 113 = .ok (.ifCond .ne 11, 3) := by decide +kernel
theorem d_TypeFinderModel_chain_116 : decode b_TypeFinderModel_chain 116 = .ok (.aload_n 0, 1) := by decide +kernel
theorem d_TypeFinderModel_chain_117 : decode b_TypeFinderModel_chain 117 = .ok (.iconst 1, 1) := by decide +kernel
theorem d_TypeFinderModel_chain_118 : decode b_TypeFinderModel_chain 118 = .ok (.putfield 230, 3) := by decide +kernel
theorem d_TypeFinderModel_chain_121 : decode b_TypeFinderModel_chain 121 = .ok (.goto 127, 3) := by decide +kernel
theorem d_TypeFinderModel_chain_248 : decode b_TypeFinderModel_chain 248 = .ok (.return_, 1) := by decide +kernel
theorem d_TypeFinderModel_declare_0 : decode b_TypeFinderModel_declare 0 = .ok (.aload_n 0, 1) := by decide +kernel
theorem d_TypeFinderModel_declare_1 : decode b_TypeFinderModel_declare 1 = .ok (.invokevirtual 501, 3) := by decide +kernel
theorem d_TypeFinderModel_declare_4 : decode b_TypeFinderModel_declare 4 = .ok (.ifCond .eq 6, 3) := by decide +kernel
theorem d_TypeFinderModel_declare_10 : decode b_TypeFinderModel_declare 10 = .ok (.aload_n 0, 1) := by decide +kernel
theorem d_TypeFinderModel_declare_11 : decode b_TypeFinderModel_declare 11 = .ok (.getfield 230, 3) := by decide +kernel
theorem d_TypeFinderModel_declare_14 : decode b_TypeFinderModel_declare 14 = .ok (.ifCond .ne 17, 3) := by decide +kernel
theorem d_TypeFinderModel_declare_17 : decode b_TypeFinderModel_declare 17 = .ok (.aload_n 0, 1) := by decide +kernel
theorem d_TypeFinderModel_declare_18 : decode b_TypeFinderModel_declare 18 = .ok (.invokevirtual 263, 3) := by decide +kernel
theorem d_TypeFinderModel_declare_21 : decode b_TypeFinderModel_declare 21 = .ok (.bipush 18, 2) := by decide +kernel
theorem d_TypeFinderModel_declare_23 : decode b_TypeFinderModel_declare 23 = .ok (.if_icmp .ne 8, 3) := by decide +kernel
theorem d_TypeFinderModel_declare_31 : decode b_TypeFinderModel_declare 31 = .ok (.aload_n 0, 1) := by decide +kernel
theorem d_TypeFinderModel_declare_32 : decode b_TypeFinderModel_declare 32 = .ok (.getfield 230, 3) := by decide +kernel
theorem d_TypeFinderModel_declare_35 : decode b_TypeFinderModel_declare 35 = .ok (.ifCond .eq 7, 3) := by decide +kernel
theorem d_TypeFinderModel_declare_42 : decode b_TypeFinderModel_declare 42 = .ok (.aload_n 0, 1) := by decide +kernel
theorem d_TypeFinderModel_declare_43 : decode b_TypeFinderModel_declare 43 = .ok (.invokevirtual 525, 3) := by decide +kernel
theorem d_TypeFinderModel_declare_46 : decode b_TypeFinderModel_declare 46 = .ok (.istore_n 1, 1) := by decide +kernel
theorem d_TypeFinderModel_declare_47 : decode b_TypeFinderModel_declare 47 = .ok (.aload_n 0, 1) := by decide +kernel
theorem d_TypeFinderModel_declare_48 : decode b_TypeFinderModel_declare 48 = .ok (.getfield 230, 3) := by decide +kernel
theorem d_TypeFinderModel_declare_51 : decode b_TypeFinderModel_declare 51 = .ok (.ifCond .ne 7, 3) := by decide +kernel
theorem d_TypeFinderModel_declare_58 : decode b_TypeFinderModel_declare 58 = .ok (.aload_n 0, 1) := by decide +kernel
theorem d_TypeFinderModel_declare_59 : decode b_TypeFinderModel_declare 59 = .ok (.getfield 230, 3) := by decide +kernel
theorem d_TypeFinderModel_declare_62 : decode b_TypeFinderModel_declare 62 = .ok (.ifCond .ne 10, 3) := by decide +kernel
theorem d_TypeFinderModel_declare_72 : decode b_TypeFinderModel_declare 72 = .ok (.aload_n 0, 1) := by decide +kernel
theorem d_TypeFinderModel_declare_73 : decode b_TypeFinderModel_declare 73 = .ok (.iconst 1, 1) := by decide +kernel
theorem d_TypeFinderModel_declare_74 : decode b_TypeFinderModel_declare 74 = .ok (.invokevirtual 507, 3) := by decide +kernel
theorem d_TypeFinderModel_declare_77 : decode b_TypeFinderModel_declare 77 = .ok (.ireturn, 1) := by decide +kernel
theorem d_TypeFinderModel_enter_0 : decode b_TypeFinderModel_enter 0 = .ok (.aload_n 0, 1) := by decide +kernel
theorem d_TypeFinderModel_enter_1 : decode b_TypeFinderModel_enter 1 = .ok (.getfield 81, 3) := by decide +kernel
theorem d_TypeFinderModel_enter_4 : decode b_TypeFinderModel_enter 4 = .ok (.aload_n 0, 1) := by decide +kernel
theorem d_TypeFinderModel_enter_5 : decode b_TypeFinderModel_enter 5 = .ok (.getfield 274, 3) := by decide +kernel
theorem d_TypeFinderModel_enter_8 : decode b_TypeFinderModel_enter 8 = .ok (.iload_n 1, 1) := by decide +kernel
theorem d_TypeFinderModel_enter_9 : decode b_TypeFinderModel_enter 9 = .ok (.iastore, 1) := by decide +kernel
theorem d_TypeFinderModel_enter_10 : decode b_TypeFinderModel_enter 10 = .ok (.aload_n 0, 1) := by decide +kernel
theorem d_TypeFinderModel_enter_11 : decode b_TypeFinderModel_enter 11 = .ok (.getfield 84, 3) := by decide +kernel
theorem d_TypeFinderModel_enter_14 : decode b_TypeFinderModel_enter 14 = .ok (.aload_n 0, 1) := by decide +kernel
theorem d_TypeFinderModel_enter_15 : decode b_TypeFinderModel_enter 15 = .ok (.getfield 274, 3) := by decide +kernel
theorem d_TypeFinderModel_enter_18 : decode b_TypeFinderModel_enter 18 = .ok (.aload_n 0, 1) := by decide +kernel
theorem d_TypeFinderModel_enter_19 : decode b_TypeFinderModel_enter 19 = .ok (.getfield 277, 3) := by decide +kernel
theorem d_TypeFinderModel_enter_22 : decode b_TypeFinderModel_enter 22 = .ok (.iastore, 1) := by decide +kernel
theorem d_TypeFinderModel_enter_23 : decode b_TypeFinderModel_enter 23 = .ok (.aload_n 0, 1) := by decide +kernel
theorem d_TypeFinderModel_enter_24 : decode b_TypeFinderModel_enter 24 = .ok (.getfield 87, 3) := by decide +kernel
theorem d_TypeFinderModel_enter_27 : decode b_TypeFinderModel_enter 27 = .ok (.aload_n 0, 1) := by decide +kernel
theorem d_TypeFinderModel_enter_28 : decode b_TypeFinderModel_enter 28 = .ok (.getfield 274, 3) := by decide +kernel
theorem d_TypeFinderModel_enter_31 : decode b_TypeFinderModel_enter 31 = .ok (.iload_n 2, 1) := by decide +kernel
theorem d_TypeFinderModel_enter_32 : decode b_TypeFinderModel_enter 32 = .ok (.iastore, 1) := by decide +kernel
theorem d_TypeFinderModel_enter_33 : decode b_TypeFinderModel_enter 33 = .ok (.aload_n 0, 1) := by decide +kernel
theorem d_TypeFinderModel_enter_34 : decode b_TypeFinderModel_enter 34 = .ok (.getfield 90, 3) := by decide +kernel
theorem d_TypeFinderModel_enter_37 : decode b_TypeFinderModel_enter 37 = .ok (.aload_n 0, 1) := by decide +kernel
theorem d_TypeFinderModel_enter_38 : decode b_TypeFinderModel_enter 38 = .ok (.getfield 274, 3) := by decide +kernel
theorem d_TypeFinderModel_enter_41 : decode b_TypeFinderModel_enter 41 = .ok (.iload_n 3, 1) := by decide +kernel
theorem d_TypeFinderModel_enter_42 : decode b_TypeFinderModel_enter 42 = .ok (.iastore, 1) := by decide +kernel
theorem d_TypeFinderModel_enter_43 : decode b_TypeFinderModel_enter 43 = .ok (.aload_n 0, 1) := by decide +kernel
theorem d_TypeFinderModel_enter_44 : decode b_TypeFinderModel_enter 44 = .ok (.getfield 93, 3) := by decide +kernel
theorem d_TypeFinderModel_enter_47 : decode b_TypeFinderModel_enter 47 = .ok (.aload_n 0, 1) := by decide +kernel
theorem d_TypeFinderModel_enter_48 : decode b_TypeFinderModel_enter 48 = .ok (.getfield 274, 3) := by decide +kernel
theorem d_TypeFinderModel_enter_51 : decode b_TypeFinderModel_enter 51 = .ok (.iconst 0, 1) := by decide +kernel
theorem d_TypeFinderModel_enter_52 : decode b_TypeFinderModel_enter 52 = .ok (.iastore, 1) := by decide +kernel
theorem d_TypeFinderModel_enter_53 : decode b_TypeFinderModel_enter 53 = .ok (.aload_n 0, 1) := by decide +kernel
theorem d_TypeFinderModel_enter_54 : decode b_TypeFinderModel_enter 54 = .ok (.getfield 96, 3) := by decide +kernel
theorem d_TypeFinderModel_enter_57 : decode b_TypeFinderModel_enter 57 = .ok (.aload_n 0, 1) := by decide +kernel
theorem d_TypeFinderModel_enter_58 : decode b_TypeFinderModel_enter 58 = .ok (.getfield 274, 3) := by decide +kernel
theorem d_TypeFinderModel_enter_61 : decode b_TypeFinderModel_enter 61 = .ok (.iconst 0, 1) := by decide +kernel
theorem d_TypeFinderModel_enter_62 : decode b_TypeFinderModel_enter 62 = .ok (.iastore, 1) := by decide +kernel
theorem d_TypeFinderModel_enter_63 : decode b_TypeFinderModel_enter 63 = .ok (.aload_n 0, 1) := by decide +kernel
theorem d_TypeFinderModel_enter_64 : decode b_TypeFinderModel_enter 64 = .ok (.dup, 1) := by decide +kernel
theorem d_TypeFinderModel_enter_65 : decode b_TypeFinderModel_enter 65 = .ok (.getfield 274, 3) := by decide +kernel
theorem d_TypeFinderModel_enter_68 : decode b_TypeFinderModel_enter 68 = .ok (.iconst 1, 1) := by decide +kernel
theorem d_TypeFinderModel_enter_69 : decode b_TypeFinderModel_enter 69 = .ok (.iadd, 1) := by decide +kernel
theorem d_TypeFinderModel_enter_70 : decode b_TypeFinderModel_enter 70 = .ok (.putfield 274, 3) := by decide +kernel
theorem d_TypeFinderModel_enter_73 : decode b_TypeFinderModel_enter 73 = .ok (.aload_n 0, 1) := by decide +kernel
theorem d_TypeFinderModel_enter_74 : decode b_TypeFinderModel_enter 74 = .ok (.iload_n 1, 1) := by decide +kernel
theorem d_TypeFinderModel_enter_75 : decode b_TypeFinderModel_enter 75 = .ok (.invokevirtual 280, 3) := by decide +kernel
theorem d_TypeFinderModel_enter_78 : decode b_TypeFinderModel_enter 78 = .ok (.return_, 1) := by decide +kernel
theorem d_TypeFinderModel_expect_0 : decode b_TypeFinderModel_expect 0 = .ok (.aload_n 0, 1) := by decide +kernel
theorem d_TypeFinderModel_expect_1 : decode b_TypeFinderModel_expect 1 = .ok (.aload_n 0, 1) := by decide +kernel
theorem d_TypeFinderModel_expect_2 : decode b_TypeFinderModel_expect 2 = .ok (.getfield 230, 3) := by decide +kernel
theorem d_TypeFinderModel_expect_5 : decode b_TypeFinderModel_expect 5 = .ok (.ifCond .ne 11, 3) := by decide +kernel
theorem d_TypeFinderModel_expect_8 : decode b_TypeFinderModel_expect 8 = .ok (.aload_n 0, 1) := by decide +kernel
theorem d_TypeFinderModel_expect_9 : decode b_TypeFinderModel_expect 9 = .ok (.invokevirtual 263, 3) := by decide +kernel
theorem d_TypeFinderModel_expect_12 : decode b_TypeFinderModel_expect 12 = .ok (.iload_n 1, 1) := by decide +kernel
theorem d_TypeFinderModel_expect_13 : decode b_TypeFinderModel_expect 13 = .ok (.if_icmp .eq 7, 3) := by decide +kernel
theorem d_TypeFinderModel_expect_16 : decode b_TypeFinderModel_expect 16 = .ok (.iconst 1, 1) := by decide +kernel
theorem d_TypeFinderModel_expect_17 : decode b_TypeFinderModel_expect 17 = .ok (.goto 4, 3) := by decide +kernel
theorem d_TypeFinderModel_expect_21 : decode b_TypeFinderModel_expect 21 = .ok (.putfield 230, 3) := by decide +kernel
theorem d_TypeFinderModel_expect_24 : decode b_TypeFinderModel_expect 24 = .ok (.aload_n 0, 1) := by decide +kernel
theorem d_TypeFinderModel_expect_25 : decode b_TypeFinderModel_expect 25 = .ok (.dup, 1) := by decide +kernel
theorem d_TypeFinderModel_expect_26 : decode b_TypeFinderModel_expect 26 = .ok (.getfield 256, 3) := by decide +kernel
theorem d_TypeFinderModel_expect_29 : decode b_TypeFinderModel_expect 29 = .ok (.aload_n 0, 1) := by decide +kernel
theorem d_TypeFinderModel_expect_30 : decode b_TypeFinderModel_expect 30 = .ok (.getfield 230, 3) := by decide +kernel
theorem d_TypeFinderModel_expect_33 : decode b_TypeFinderModel_expect 33 = .ok (.ifCond .eq 7, 3) := by decide +kernel
theorem d_TypeFinderModel_expect_36 : decode b_TypeFinderModel_expect 36 = .ok (.iconst 0, 1) := by decide +kernel
theorem d_TypeFinderModel_expect_37 : decode b_TypeFinderModel_expect 37 = .ok (.goto 4, 3) := by decide +kernel
theorem d_TypeFinderModel_expect_41 : decode b_TypeFinderModel_expect 41 = .ok (.iadd, 1) := by decide +kernel
theorem d_TypeFinderModel_expect_42 : decode b_TypeFinderModel_expect 42 = .ok (.putfield 256, 3) := by decide +kernel
theorem d_TypeFinderModel_expect_45 : decode b_TypeFinderModel_expect 45 = .ok (.return_, 1) := by decide +kernel
theorem d_TypeFinderModel_expression_0 : decode b_TypeFinderModel_expression 0 = .ok (.aload_n 0, 1) := by decide +kernel
theorem d_TypeFinderModel_expression_1 : decode b_TypeFinderModel_expression 1 = .ok (.iconst 0, 1) := by decide +kernel
theorem d_TypeFinderModel_expression_2 : decode b_TypeFinderModel_expression 2 = .ok (.putfield 274, 3) := by decide +kernel
theorem d_TypeFinderModel_expression_5 : decode b_TypeFinderModel_expression 5 = .ok (.aload_n 0, 1) := by decide +kernel
theorem d_TypeFinderModel_expression_6 : decode b_TypeFinderModel_expression 6 = .ok (.iconst 0, 1) := by decide +kernel
theorem d_TypeFinderModel_expression_7 : decode b_TypeFinderModel_expression 7 = .ok (.putfield 277, 3) := by decide +kernel
theorem d_TypeFinderModel_expression_10 : decode b_TypeFinderModel_expression 10 = .ok (.aload_n 0, 1) := by decide +kernel
