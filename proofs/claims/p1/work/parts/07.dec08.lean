theorem d_TypeFinder_DataType_made_11 : decode b_TypeFinder_DataType_made 11 = .ok (.ifCond .le 17, 3) := by decide +kernel
theorem d_TypeFinder_DataType_made_14 : decode b_TypeFinder_DataType_made 14 = .ok (.new 31, 3) := by decide +kernel
theorem d_TypeFinder_DataType_made_17 : decode b_TypeFinder_DataType_made 17 = .ok (.dup, 1) := by decide +kernel
theorem d_TypeFinder_DataType_made_18 : decode b_TypeFinder_DataType_made 18 = .ok (.iconst 5, 1) := by decide +kernel
theorem d_TypeFinder_DataType_made_19 : decode b_TypeFinder_DataType_made 19 = .ok (.aconst_null, 1) := by decide +kernel
theorem d_TypeFinder_DataType_made_20 : decode b_TypeFinder_DataType_made 20 = .ok (.aconst_null, 1) := by decide +kernel
theorem d_TypeFinder_DataType_made_21 : decode b_TypeFinder_DataType_made 21 = .ok (.aconst_null, 1) := by decide +kernel
theorem d_TypeFinder_DataType_made_22 : decode b_TypeFinder_DataType_made 22 = .ok (.invokespecial 33, 3) := by decide +kernel
theorem d_TypeFinder_DataType_made_25 : decode b_TypeFinder_DataType_made 25 = .ok (.goto 4, 3) := by decide +kernel
theorem d_TypeFinder_DataType_made_28 : decode b_TypeFinder_DataType_made 28 = .ok (.aconst_null, 1) := by decide +kernel
theorem d_TypeFinder_DataType_made_29 : decode b_TypeFinder_DataType_made 29 = .ok (.astore 4, 2) := by decide +kernel
theorem d_TypeFinder_DataType_made_31 : decode b_TypeFinder_DataType_made 31 = .ok (.iload_n 2, 1) := by decide +kernel
theorem d_TypeFinder_DataType_made_32 : decode b_TypeFinder_DataType_made 32 = .ok (.iconst 1, 1) := by decide +kernel
theorem d_TypeFinder_DataType_made_33 : decode b_TypeFinder_DataType_made 33 = .ok (.if_icmp .le 17, 3) := by decide +kernel
theorem d_TypeFinder_DataType_made_50 : decode b_TypeFinder_DataType_made 50 = .ok (.aconst_null, 1) := by decide +kernel
theorem d_TypeFinder_DataType_made_51 : decode b_TypeFinder_DataType_made 51 = .ok (.astore 5, 2) := by decide +kernel
theorem d_TypeFinder_DataType_made_53 : decode b_TypeFinder_DataType_made 53 = .ok (.aload_n 3, 1) := by decide +kernel
theorem d_TypeFinder_DataType_made_54 : decode b_TypeFinder_DataType_made 54 = .ok (.new 31, 3) := by decide +kernel
theorem d_TypeFinder_DataType_made_57 : decode b_TypeFinder_DataType_made 57 = .ok (.dup, 1) := by decide +kernel
theorem d_TypeFinder_DataType_made_58 : decode b_TypeFinder_DataType_made 58 = .ok (.iconst 3, 1) := by decide +kernel
theorem d_TypeFinder_DataType_made_59 : decode b_TypeFinder_DataType_made 59 = .ok (.aload_n 3, 1) := by decide +kernel
theorem d_TypeFinder_DataType_made_60 : decode b_TypeFinder_DataType_made 60 = .ok (.aload 4, 2) := by decide +kernel
theorem d_TypeFinder_DataType_made_62 : decode b_TypeFinder_DataType_made 62 = .ok (.aload 5, 2) := by decide +kernel
theorem d_TypeFinder_DataType_made_64 : decode b_TypeFinder_DataType_made 64 = .ok (.invokespecial 33, 3) := by decide +kernel
theorem d_TypeFinder_DataType_made_67 : decode b_TypeFinder_DataType_made 67 = .ok (.putfield 36, 3) := by decide +kernel
theorem d_TypeFinder_DataType_made_70 : decode b_TypeFinder_DataType_made 70 = .ok (.aload_n 3, 1) := by decide +kernel
theorem d_TypeFinder_DataType_made_71 : decode b_TypeFinder_DataType_made 71 = .ok (.areturn, 1) := by decide +kernel
theorem d_TypeFinder_Known_init_0 : decode b_TypeFinder_Known_init 0 = .ok (.aload_n 0, 1) := by decide +kernel
theorem d_TypeFinder_Known_init_1 : decode b_TypeFinder_Known_init 1 = .ok (.invokespecial 3, 3) := by decide +kernel
theorem d_TypeFinder_Known_init_4 : decode b_TypeFinder_Known_init 4 = .ok (.aload_n 0, 1) := by decide +kernel
theorem d_TypeFinder_Known_init_5 : decode b_TypeFinder_Known_init 5 = .ok (.new 9, 3) := by decide +kernel
theorem d_TypeFinder_Known_init_8 : decode b_TypeFinder_Known_init 8 = .ok (.dup, 1) := by decide +kernel
theorem d_TypeFinder_Known_init_9 : decode b_TypeFinder_Known_init 9 = .ok (.iconst 0, 1) := by decide +kernel
theorem d_TypeFinder_Known_init_10 : decode b_TypeFinder_Known_init 10 = .ok (.aconst_null, 1) := by decide +kernel
theorem d_TypeFinder_Known_init_11 : decode b_TypeFinder_Known_init 11 = .ok (.aconst_null, 1) := by decide +kernel
theorem d_TypeFinder_Known_init_12 : decode b_TypeFinder_Known_init 12 = .ok (.aconst_null, 1) := by decide +kernel
theorem d_TypeFinder_Known_init_13 : decode b_TypeFinder_Known_init 13 = .ok (.invokespecial 11, 3) := by decide +kernel
theorem d_TypeFinder_Known_init_16 : decode b_TypeFinder_Known_init 16 = .ok (.putfield 14, 3) := by decide +kernel
theorem d_TypeFinder_Known_init_19 : decode b_TypeFinder_Known_init 19 = .ok (.aload_n 0, 1) := by decide +kernel
theorem d_TypeFinder_Known_init_20 : decode b_TypeFinder_Known_init 20 = .ok (.new 20, 3) := by decide +kernel
theorem d_TypeFinder_Known_init_23 : decode b_TypeFinder_Known_init 23 = .ok (.dup, 1) := by decide +kernel
theorem d_TypeFinder_Known_init_24 : decode b_TypeFinder_Known_init 24 = .ok (.invokespecial 22, 3) := by decide +kernel
theorem d_TypeFinder_Known_init_27 : decode b_TypeFinder_Known_init 27 = .ok (.putfield 23, 3) := by decide +kernel
theorem d_TypeFinder_Known_init_30 : decode b_TypeFinder_Known_init 30 = .ok (.aload_n 0, 1) := by decide +kernel
theorem d_TypeFinder_Known_init_31 : decode b_TypeFinder_Known_init 31 = .ok (.new 20, 3) := by decide +kernel
theorem d_TypeFinder_Known_init_34 : decode b_TypeFinder_Known_init 34 = .ok (.dup, 1) := by decide +kernel
theorem d_TypeFinder_Known_init_35 : decode b_TypeFinder_Known_init 35 = .ok (.invokespecial 22, 3) := by decide +kernel
theorem d_TypeFinder_Known_init_38 : decode b_TypeFinder_Known_init 38 = .ok (.putfield 27, 3) := by decide +kernel
theorem d_TypeFinder_Known_init_41 : decode b_TypeFinder_Known_init 41 = .ok (.ldc 30, 2) := by decide +kernel
theorem d_TypeFinder_Known_init_43 : decode b_TypeFinder_Known_init 43 = .ok (.invokestatic 32, 3) := by decide +kernel
theorem d_TypeFinder_Known_init_46 : decode b_TypeFinder_Known_init 46 = .ok (.iconst 0, 1) := by decide +kernel
theorem d_TypeFinder_Known_init_47 : decode b_TypeFinder_Known_init 47 = .ok (.invokestatic 38, 3) := by decide +kernel
theorem d_TypeFinder_Known_init_50 : decode b_TypeFinder_Known_init 50 = .ok (.astore_n 1, 1) := by decide +kernel
theorem d_TypeFinder_Known_init_51 : decode b_TypeFinder_Known_init 51 = .ok (.aload_n 0, 1) := by decide +kernel
theorem d_TypeFinder_Known_init_52 : decode b_TypeFinder_Known_init 52 = .ok (.aload_n 1, 1) := by decide +kernel
theorem d_TypeFinder_Known_init_53 : decode b_TypeFinder_Known_init 53 = .ok (.getfield 44, 3) := by decide +kernel
theorem d_TypeFinder_Known_init_56 : decode b_TypeFinder_Known_init 56 = .ok (.putfield 47, 3) := by decide +kernel
theorem d_TypeFinder_Known_init_59 : decode b_TypeFinder_Known_init 59 = .ok (.aload_n 1, 1) := by decide +kernel
theorem d_TypeFinder_Known_init_60 : decode b_TypeFinder_Known_init 60 = .ok (.getfield 50, 3) := by decide +kernel
theorem d_TypeFinder_Known_init_63 : decode b_TypeFinder_Known_init 63 = .ok (.new 53, 3) := by decide +kernel
theorem d_TypeFinder_Known_init_66 : decode b_TypeFinder_Known_init 66 = .ok (.dup, 1) := by decide +kernel
theorem d_TypeFinder_Known_init_67 : decode b_TypeFinder_Known_init 67 = .ok (.ldc 55, 2) := by decide +kernel
theorem d_TypeFinder_Known_init_69 : decode b_TypeFinder_Known_init 69 = .ok (.invokestatic 32, 3) := by decide +kernel
theorem d_TypeFinder_Known_init_72 : decode b_TypeFinder_Known_init 72 = .ok (.aload_n 0, 1) := by decide +kernel
theorem d_TypeFinder_Known_init_73 : decode b_TypeFinder_Known_init 73 = .ok (.getfield 47, 3) := by decide +kernel
theorem d_TypeFinder_Known_init_76 : decode b_TypeFinder_Known_init 76 = .ok (.iconst 1, 1) := by decide +kernel
theorem d_TypeFinder_Known_init_77 : decode b_TypeFinder_Known_init 77 = .ok (.invokespecial 57, 3) := by decide +kernel
theorem d_TypeFinder_Known_init_80 : decode b_TypeFinder_Known_init 80 = .ok (.invokevirtual 60, 3) := by decide +kernel
theorem d_TypeFinder_Known_init_83 : decode b_TypeFinder_Known_init 83 = .ok (.pop, 1) := by decide +kernel
theorem d_TypeFinder_Known_init_84 : decode b_TypeFinder_Known_init 84 = .ok (.aload_n 1, 1) := by decide +kernel
theorem d_TypeFinder_Known_init_85 : decode b_TypeFinder_Known_init 85 = .ok (.getfield 50, 3) := by decide +kernel
theorem d_TypeFinder_Known_init_88 : decode b_TypeFinder_Known_init 88 = .ok (.new 53, 3) := by decide +kernel
theorem d_TypeFinder_Known_init_91 : decode b_TypeFinder_Known_init 91 = .ok (.dup, 1) := by decide +kernel
theorem d_TypeFinder_Known_init_92 : decode b_TypeFinder_Known_init 92 = .ok (.ldc 64, 2) := by decide +kernel
theorem d_TypeFinder_Known_init_94 : decode b_TypeFinder_Known_init 94 = .ok (.invokestatic 32, 3) := by decide +kernel
theorem d_TypeFinder_Known_init_97 : decode b_TypeFinder_Known_init 97 = .ok (.aload_n 0, 1) := by decide +kernel
theorem d_TypeFinder_Known_init_98 : decode b_TypeFinder_Known_init 98 = .ok (.getfield 47, 3) := by decide +kernel
theorem d_TypeFinder_Known_init_101 : decode b_TypeFinder_Known_init 101 = .ok (.iconst 1, 1) := by decide +kernel
theorem d_TypeFinder_Known_init_102 : decode b_TypeFinder_Known_init 102 = .ok (.invokespecial 57, 3) := by decide +kernel
theorem d_TypeFinder_Known_init_105 : decode b_TypeFinder_Known_init 105 = .ok (.invokevirtual 60, 3) := by decide +kernel
theorem d_TypeFinder_Known_init_108 : decode b_TypeFinder_Known_init 108 = .ok (.pop, 1) := by decide +kernel
theorem d_TypeFinder_Known_init_109 : decode b_TypeFinder_Known_init 109 = .ok (.aload_n 0, 1) := by decide +kernel
theorem d_TypeFinder_Known_init_110 : decode b_TypeFinder_Known_init 110 = .ok (.getfield 23, 3) := by decide +kernel
theorem d_TypeFinder_Known_init_113 : decode b_TypeFinder_Known_init 113 = .ok (.aload_n 1, 1) := by decide +kernel
theorem d_TypeFinder_Known_init_114 : decode b_TypeFinder_Known_init 114 = .ok (.invokevirtual 60, 3) := by decide +kernel
theorem d_TypeFinder_Known_init_117 : decode b_TypeFinder_Known_init 117 = .ok (.pop, 1) := by decide +kernel
theorem d_TypeFinder_Known_init_118 : decode b_TypeFinder_Known_init 118 = .ok (.ldc 66, 2) := by decide +kernel
theorem d_TypeFinder_Known_init_120 : decode b_TypeFinder_Known_init 120 = .ok (.invokestatic 32, 3) := by decide +kernel
theorem d_TypeFinder_Known_init_123 : decode b_TypeFinder_Known_init 123 = .ok (.iconst 1, 1) := by decide +kernel
theorem d_TypeFinder_Known_init_124 : decode b_TypeFinder_Known_init 124 = .ok (.invokestatic 38, 3) := by decide +kernel
theorem d_TypeFinder_Known_init_127 : decode b_TypeFinder_Known_init 127 = .ok (.astore_n 2, 1) := by decide +kernel
theorem d_TypeFinder_Known_init_128 : decode b_TypeFinder_Known_init 128 = .ok (.aload_n 2, 1) := by decide +kernel
theorem d_TypeFinder_Known_init_129 : decode b_TypeFinder_Known_init 129 = .ok (.getfield 44, 3) := by decide +kernel
theorem d_TypeFinder_Known_init_132 : decode b_TypeFinder_Known_init 132 = .ok (.getfield 68, 3) := by decide +kernel
theorem d_TypeFinder_Known_init_135 : decode b_TypeFinder_Known_init 135 = .ok (.aload_n 2, 1) := by decide +kernel
theorem d_TypeFinder_Known_init_136 : decode b_TypeFinder_Known_init 136 = .ok (.getfield 44, 3) := by decide +kernel
theorem d_TypeFinder_Known_init_139 : decode b_TypeFinder_Known_init 139 = .ok (.aload_n 2, 1) := by decide +kernel
theorem d_TypeFinder_Known_init_140 : decode b_TypeFinder_Known_init 140 = .ok (.getfield 44, 3) := by decide +kernel
theorem d_TypeFinder_Known_init_143 : decode b_TypeFinder_Known_init 143 = .ok (.invokestatic 71, 3) := by decide +kernel
theorem d_TypeFinder_Known_init_146 : decode b_TypeFinder_Known_init 146 = .ok (.invokestatic 71, 3) := by decide +kernel
theorem d_TypeFinder_Known_init_149 : decode b_TypeFinder_Known_init 149 = .ok (.astore_n 3, 1) := by decide +kernel
theorem d_TypeFinder_Known_init_150 : decode b_TypeFinder_Known_init 150 = .ok (.aload_n 2, 1) := by decide +kernel
theorem d_TypeFinder_Known_init_151 : decode b_TypeFinder_Known_init 151 = .ok (.getfield 50, 3) := by decide +kernel
theorem d_TypeFinder_Known_init_154 : decode b_TypeFinder_Known_init 154 = .ok (.new 53, 3) := by decide +kernel
theorem d_TypeFinder_Known_init_157 : decode b_TypeFinder_Known_init 157 = .ok (.dup, 1) := by decide +kernel
theorem d_TypeFinder_Known_init_158 : decode b_TypeFinder_Known_init 158 = .ok (.ldc 77, 2) := by decide +kernel
theorem d_TypeFinder_Known_init_160 : decode b_TypeFinder_Known_init 160 = .ok (.invokestatic 32, 3) := by decide +kernel
theorem d_TypeFinder_Known_init_163 : decode b_TypeFinder_Known_init 163 = .ok (.aload_n 2, 1) := by decide +kernel
theorem d_TypeFinder_Known_init_164 : decode b_TypeFinder_Known_init 164 = .ok (.getfield 44, 3) := by decide +kernel
theorem d_TypeFinder_Known_init_167 : decode b_TypeFinder_Known_init 167 = .ok (.iconst 1, 1) := by decide +kernel
theorem d_TypeFinder_Known_init_168 : decode b_TypeFinder_Known_init 168 = .ok (.invokespecial 57, 3) := by decide +kernel
theorem d_TypeFinder_Known_init_171 : decode b_TypeFinder_Known_init 171 = .ok (.invokevirtual 60, 3) := by decide +kernel
theorem d_TypeFinder_Known_init_174 : decode b_TypeFinder_Known_init 174 = .ok (.pop, 1) := by decide +kernel
theorem d_TypeFinder_Known_init_175 : decode b_TypeFinder_Known_init 175 = .ok (.aload_n 2, 1) := by decide +kernel
theorem d_TypeFinder_Known_init_176 : decode b_TypeFinder_Known_init 176 = .ok (.getfield 50, 3) := by decide +kernel
theorem d_TypeFinder_Known_init_179 : decode b_TypeFinder_Known_init 179 = .ok (.new 53, 3) := by decide +kernel
theorem d_TypeFinder_Known_init_182 : decode b_TypeFinder_Known_init 182 = .ok (.dup, 1) := by decide +kernel
theorem d_TypeFinder_Known_init_183 : decode b_TypeFinder_Known_init 183 = .ok (.ldc2_w 79, 3) := by decide +kernel
theorem d_TypeFinder_Known_init_186 : decode b_TypeFinder_Known_init 186 = .ok (.aload_n 3, 1) := by decide +kernel
theorem d_TypeFinder_Known_init_187 : decode b_TypeFinder_Known_init 187 = .ok (.iconst 1, 1) := by decide +kernel
theorem d_TypeFinder_Known_init_188 : decode b_TypeFinder_Known_init 188 = .ok (.invokespecial 57, 3) := by decide +kernel
theorem d_TypeFinder_Known_init_191 : decode b_TypeFinder_Known_init 191 = .ok (.invokevirtual 60, 3) := by decide +kernel
theorem d_TypeFinder_Known_init_194 : decode b_TypeFinder_Known_init 194 = .ok (.pop, 1) := by decide +kernel
theorem d_TypeFinder_Known_init_195 : decode b_TypeFinder_Known_init 195 = .ok (.aload_n 0, 1) := by decide +kernel
theorem d_TypeFinder_Known_init_196 : decode b_TypeFinder_Known_init 196 = .ok (.getfield 23, 3) := by decide +kernel
theorem d_TypeFinder_Known_init_199 : decode b_TypeFinder_Known_init 199 = .ok (.aload_n 2, 1) := by decide +kernel
theorem d_TypeFinder_Known_init_200 : decode b_TypeFinder_Known_init 200 = .ok (.invokevirtual 60, 3) := by decide +kernel
theorem d_TypeFinder_Known_init_203 : decode b_TypeFinder_Known_init 203 = .ok (.pop, 1) := by decide +kernel
theorem d_TypeFinder_Known_init_204 : decode b_TypeFinder_Known_init 204 = .ok (.aload_n 0, 1) := by decide +kernel
theorem d_TypeFinder_Known_init_205 : decode b_TypeFinder_Known_init 205 = .ok (.getfield 14, 3) := by decide +kernel
theorem d_TypeFinder_Known_init_208 : decode b_TypeFinder_Known_init 208 = .ok (.aload_n 0, 1) := by decide +kernel
theorem d_TypeFinder_Known_init_209 : decode b_TypeFinder_Known_init 209 = .ok (.getfield 14, 3) := by decide +kernel
theorem d_TypeFinder_Known_init_212 : decode b_TypeFinder_Known_init 212 = .ok (.aload_n 0, 1) := by decide +kernel
theorem d_TypeFinder_Known_init_213 : decode b_TypeFinder_Known_init 213 = .ok (.getfield 14, 3) := by decide +kernel
theorem d_TypeFinder_Known_init_216 : decode b_TypeFinder_Known_init 216 = .ok (.invokestatic 71, 3) := by decide +kernel
theorem d_TypeFinder_Known_init_219 : decode b_TypeFinder_Known_init 219 = .ok (.invokestatic 71, 3) := by decide +kernel
theorem d_TypeFinder_Known_init_222 : decode b_TypeFinder_Known_init 222 = .ok (.astore 4, 2) := by decide +kernel
theorem d_TypeFinder_Known_init_224 : decode b_TypeFinder_Known_init 224 = .ok (.aload_n 0, 1) := by decide +kernel
theorem d_TypeFinder_Known_init_225 : decode b_TypeFinder_Known_init 225 = .ok (.getfield 27, 3) := by decide +kernel
theorem d_TypeFinder_Known_init_228 : decode b_TypeFinder_Known_init 228 = .ok (.new 53, 3) := by decide +kernel
theorem d_TypeFinder_Known_init_231 : decode b_TypeFinder_Known_init 231 = .ok (.dup, 1) := by decide +kernel
theorem d_TypeFinder_Known_init_232 : decode b_TypeFinder_Known_init 232 = .ok (.ldc2_w 81, 3) := by decide +kernel
theorem d_TypeFinder_Known_init_235 : decode b_TypeFinder_Known_init 235 = .ok (.aload 4, 2) := by decide +kernel
theorem d_TypeFinder_Known_init_237 : decode b_TypeFinder_Known_init 237 = .ok (.iconst 1, 1) := by decide +kernel
theorem d_TypeFinder_Known_init_238 : decode b_TypeFinder_Known_init 238 = .ok (.invokespecial 57, 3) := by decide +kernel
theorem d_TypeFinder_Known_init_241 : decode b_TypeFinder_Known_init 241 = .ok (.invokevirtual 60, 3) := by decide +kernel
theorem d_TypeFinder_Known_init_244 : decode b_TypeFinder_Known_init 244 = .ok (.pop, 1) := by decide +kernel
theorem d_TypeFinder_Known_init_245 : decode b_TypeFinder_Known_init 245 = .ok (.aload_n 0, 1) := by decide +kernel
theorem d_TypeFinder_Known_init_246 : decode b_TypeFinder_Known_init 246 = .ok (.getfield 27, 3) := by decide +kernel
theorem d_TypeFinder_Known_init_249 : decode b_TypeFinder_Known_init 249 = .ok (.new 53, 3) := by decide +kernel
