theorem d_TypeFinderModel_type_0 : decode b_TypeFinderModel_type 0 = .ok (.aload_n 0, 1) := by decide +kernel
theorem d_TypeFinderModel_type_1 : decode b_TypeFinderModel_type 1 = .ok (.iconst 0, 1) := by decide +kernel
theorem d_TypeFinderModel_type_2 : decode b_TypeFinderModel_type 2 = .ok (.putfield 190, 3) := by decide +kernel
theorem d_TypeFinderModel_type_5 : decode b_TypeFinderModel_type 5 = .ok (.iconst 0, 1) := by decide +kernel
theorem d_TypeFinderModel_type_6 : decode b_TypeFinderModel_type 6 = .ok (.istore_n 3, 1) := by decide +kernel
theorem d_TypeFinderModel_type_7 : decode b_TypeFinderModel_type 7 = .ok (.iconst 1, 1) := by decide +kernel
theorem d_TypeFinderModel_type_8 : decode b_TypeFinderModel_type 8 = .ok (.istore 4, 2) := by decide +kernel
theorem d_TypeFinderModel_type_10 : decode b_TypeFinderModel_type 10 = .ok (.iload_n 3, 1) := by decide +kernel
theorem d_TypeFinderModel_type_11 : decode b_TypeFinderModel_type 11 = .ok (.bipush 8, 2) := by decide +kernel
theorem d_TypeFinderModel_type_13 : decode b_TypeFinderModel_type 13 = .ok (.if_icmp .ge 66, 3) := by decide +kernel
theorem d_TypeFinderModel_type_16 : decode b_TypeFinderModel_type 16 = .ok (.lload_n 1, 1) := by decide +kernel
theorem d_TypeFinderModel_type_17 : decode b_TypeFinderModel_type 17 = .ok (.bipush 8, 2) := by decide +kernel
theorem d_TypeFinderModel_type_19 : decode b_TypeFinderModel_type 19 = .ok (.iload_n 3, 1) := by decide +kernel
theorem d_TypeFinderModel_type_20 : decode b_TypeFinderModel_type 20 = .ok (.imul, 1) := by decide +kernel
theorem d_TypeFinderModel_type_21 : decode b_TypeFinderModel_type 21 = .ok (.lushr, 1) := by decide +kernel
theorem d_TypeFinderModel_type_22 : decode b_TypeFinderModel_type 22 = .ok (.ldc2_w 186, 3) := by decide +kernel
theorem d_TypeFinderModel_type_25 : decode b_TypeFinderModel_type 25 = .ok (.land, 1) := by decide +kernel
theorem d_TypeFinderModel_type_26 : decode b_TypeFinderModel_type 26 = .ok (.lconst 0, 1) := by decide +kernel
theorem d_TypeFinderModel_type_27 : decode b_TypeFinderModel_type 27 = .ok (.lcmp, 1) := by decide +kernel
theorem d_TypeFinderModel_type_28 : decode b_TypeFinderModel_type 28 = .ok (.ifCond .eq 51, 3) := by decide +kernel
theorem d_TypeFinderModel_type_31 : decode b_TypeFinderModel_type 31 = .ok (.lload_n 1, 1) := by decide +kernel
theorem d_TypeFinderModel_type_32 : decode b_TypeFinderModel_type 32 = .ok (.bipush 8, 2) := by decide +kernel
theorem d_TypeFinderModel_type_34 : decode b_TypeFinderModel_type 34 = .ok (.iload_n 3, 1) := by decide +kernel
theorem d_TypeFinderModel_type_35 : decode b_TypeFinderModel_type 35 = .ok (.imul, 1) := by decide +kernel
theorem d_TypeFinderModel_type_36 : decode b_TypeFinderModel_type 36 = .ok (.lushr, 1) := by decide +kernel
theorem d_TypeFinderModel_type_37 : decode b_TypeFinderModel_type 37 = .ok (.ldc2_w 186, 3) := by decide +kernel
theorem d_TypeFinderModel_type_40 : decode b_TypeFinderModel_type 40 = .ok (.land, 1) := by decide +kernel
theorem d_TypeFinderModel_type_41 : decode b_TypeFinderModel_type 41 = .ok (.lstore 5, 2) := by decide +kernel
theorem d_TypeFinderModel_type_43 : decode b_TypeFinderModel_type 43 = .ok (.iload 4, 2) := by decide +kernel
theorem d_TypeFinderModel_type_45 : decode b_TypeFinderModel_type 45 = .ok (.ifCond .eq 25, 3) := by decide +kernel
theorem d_TypeFinderModel_type_48 : decode b_TypeFinderModel_type 48 = .ok (.lload 5, 2) := by decide +kernel
theorem d_TypeFinderModel_type_50 : decode b_TypeFinderModel_type 50 = .ok (.ldc2_w 259, 3) := by decide +kernel
theorem d_TypeFinderModel_type_53 : decode b_TypeFinderModel_type 53 = .ok (.lcmp, 1) := by decide +kernel
theorem d_TypeFinderModel_type_54 : decode b_TypeFinderModel_type 54 = .ok (.ifCond .lt 16, 3) := by decide +kernel
theorem d_TypeFinderModel_type_57 : decode b_TypeFinderModel_type 57 = .ok (.lload 5, 2) := by decide +kernel
theorem d_TypeFinderModel_type_59 : decode b_TypeFinderModel_type 59 = .ok (.ldc2_w 261, 3) := by decide +kernel
theorem d_TypeFinderModel_type_62 : decode b_TypeFinderModel_type 62 = .ok (.lcmp, 1) := by decide +kernel
theorem d_TypeFinderModel_type_63 : decode b_TypeFinderModel_type 63 = .ok (.ifCond .gt 7, 3) := by decide +kernel
theorem d_TypeFinderModel_type_66 : decode b_TypeFinderModel_type 66 = .ok (.iconst 1, 1) := by decide +kernel
theorem d_TypeFinderModel_type_67 : decode b_TypeFinderModel_type 67 = .ok (.goto 4, 3) := by decide +kernel
theorem d_TypeFinderModel_type_70 : decode b_TypeFinderModel_type 70 = .ok (.iconst 0, 1) := by decide +kernel
theorem d_TypeFinderModel_type_71 : decode b_TypeFinderModel_type 71 = .ok (.istore 4, 2) := by decide +kernel
theorem d_TypeFinderModel_type_73 : decode b_TypeFinderModel_type 73 = .ok (.iinc 3 1, 3) := by decide +kernel
theorem d_TypeFinderModel_type_76 : decode b_TypeFinderModel_type 76 = .ok (.goto (-66), 3) := by decide +kernel
theorem d_TypeFinderModel_type_79 : decode b_TypeFinderModel_type 79 = .ok (.iload_n 3, 1) := by decide +kernel
theorem d_TypeFinderModel_type_80 : decode b_TypeFinderModel_type 80 = .ok (.ifCond .eq 19, 3) := by decide +kernel
theorem d_TypeFinderModel_type_83 : decode b_TypeFinderModel_type 83 = .ok (.iload 4, 2) := by decide +kernel
theorem d_TypeFinderModel_type_85 : decode b_TypeFinderModel_type 85 = .ok (.ifCond .eq 14, 3) := by decide +kernel
theorem d_TypeFinderModel_type_88 : decode b_TypeFinderModel_type 88 = .ok (.aload_n 0, 1) := by decide +kernel
theorem d_TypeFinderModel_type_89 : decode b_TypeFinderModel_type 89 = .ok (.getfield 193, 3) := by decide +kernel
theorem d_TypeFinderModel_type_92 : decode b_TypeFinderModel_type 92 = .ok (.iload_n 3, 1) := by decide +kernel
theorem d_TypeFinderModel_type_93 : decode b_TypeFinderModel_type 93 = .ok (.iadd, 1) := by decide +kernel
theorem d_TypeFinderModel_type_94 : decode b_TypeFinderModel_type 94 = .ok (.bipush 80, 2) := by decide +kernel
theorem d_TypeFinderModel_type_96 : decode b_TypeFinderModel_type 96 = .ok (.if_icmp .le 5, 3) := by decide +kernel
theorem d_TypeFinderModel_type_99 : decode b_TypeFinderModel_type 99 = .ok (.iconst 0, 1) := by decide +kernel
theorem d_TypeFinderModel_type_100 : decode b_TypeFinderModel_type 100 = .ok (.ireturn, 1) := by decide +kernel
theorem d_TypeFinderModel_type_101 : decode b_TypeFinderModel_type 101 = .ok (.iconst 0, 1) := by decide +kernel
theorem d_TypeFinderModel_type_102 : decode b_TypeFinderModel_type 102 = .ok (.istore 5, 2) := by decide +kernel
theorem d_TypeFinderModel_type_104 : decode b_TypeFinderModel_type 104 = .ok (.iload 5, 2) := by decide +kernel
theorem d_TypeFinderModel_type_106 : decode b_TypeFinderModel_type 106 = .ok (.iload_n 3, 1) := by decide +kernel
theorem d_TypeFinderModel_type_107 : decode b_TypeFinderModel_type 107 = .ok (.if_icmp .ge 33, 3) := by decide +kernel
theorem d_TypeFinderModel_type_110 : decode b_TypeFinderModel_type 110 = .ok (.aload_n 0, 1) := by decide +kernel
theorem d_TypeFinderModel_type_111 : decode b_TypeFinderModel_type 111 = .ok (.getfield 7, 3) := by decide +kernel
theorem d_TypeFinderModel_type_114 : decode b_TypeFinderModel_type 114 = .ok (.aload_n 0, 1) := by decide +kernel
theorem d_TypeFinderModel_type_115 : decode b_TypeFinderModel_type 115 = .ok (.getfield 193, 3) := by decide +kernel
theorem d_TypeFinderModel_type_118 : decode b_TypeFinderModel_type 118 = .ok (.iload 5, 2) := by decide +kernel
theorem d_TypeFinderModel_type_120 : decode b_TypeFinderModel_type 120 = .ok (.iadd, 1) := by decide +kernel
theorem d_TypeFinderModel_type_121 : decode b_TypeFinderModel_type 121 = .ok (.lload_n 1, 1) := by decide +kernel
theorem d_TypeFinderModel_type_122 : decode b_TypeFinderModel_type 122 = .ok (.bipush 8, 2) := by decide +kernel
theorem d_TypeFinderModel_type_124 : decode b_TypeFinderModel_type 124 = .ok (.iload 5, 2) := by decide +kernel
theorem d_TypeFinderModel_type_126 : decode b_TypeFinderModel_type 126 = .ok (.imul, 1) := by decide +kernel
theorem d_TypeFinderModel_type_127 : decode b_TypeFinderModel_type 127 = .ok (.lushr, 1) := by decide +kernel
theorem d_TypeFinderModel_type_128 : decode b_TypeFinderModel_type 128 = .ok (.ldc2_w 186, 3) := by decide +kernel
theorem d_TypeFinderModel_type_131 : decode b_TypeFinderModel_type 131 = .ok (.land, 1) := by decide +kernel
theorem d_TypeFinderModel_type_132 : decode b_TypeFinderModel_type 132 = .ok (.l2i, 1) := by decide +kernel
theorem d_TypeFinderModel_type_133 : decode b_TypeFinderModel_type 133 = .ok (.iastore, 1) := by decide +kernel
theorem d_TypeFinderModel_type_134 : decode b_TypeFinderModel_type 134 = .ok (.iinc 5 1, 3) := by decide +kernel
theorem d_TypeFinderModel_type_137 : decode b_TypeFinderModel_type 137 = .ok (.goto (-33), 3) := by decide +kernel
theorem d_TypeFinderModel_type_140 : decode b_TypeFinderModel_type 140 = .ok (.aload_n 0, 1) := by decide +kernel
theorem d_TypeFinderModel_type_141 : decode b_TypeFinderModel_type 141 = .ok (.dup, 1) := by decide +kernel
theorem d_TypeFinderModel_type_142 : decode b_TypeFinderModel_type 142 = .ok (.getfield 193, 3) := by decide +kernel
theorem d_TypeFinderModel_type_145 : decode b_TypeFinderModel_type 145 = .ok (.iload_n 3, 1) := by decide +kernel
theorem d_TypeFinderModel_type_146 : decode b_TypeFinderModel_type 146 = .ok (.iadd, 1) := by decide +kernel
theorem d_TypeFinderModel_type_147 : decode b_TypeFinderModel_type 147 = .ok (.putfield 193, 3) := by decide +kernel
theorem d_TypeFinderModel_type_150 : decode b_TypeFinderModel_type 150 = .ok (.iconst 1, 1) := by decide +kernel
theorem d_TypeFinderModel_type_151 : decode b_TypeFinderModel_type 151 = .ok (.ireturn, 1) := by decide +kernel
theorem d_TypeFinder_byteOf_0 : decode b_TypeFinder_byteOf 0 = .ok (.lload_n 0, 1) := by decide +kernel
theorem d_TypeFinder_byteOf_1 : decode b_TypeFinder_byteOf 1 = .ok (.bipush 8, 2) := by decide +kernel
theorem d_TypeFinder_byteOf_3 : decode b_TypeFinder_byteOf 3 = .ok (.iload_n 2, 1) := by decide +kernel
theorem d_TypeFinder_byteOf_4 : decode b_TypeFinder_byteOf 4 = .ok (.imul, 1) := by decide +kernel
theorem d_TypeFinder_byteOf_5 : decode b_TypeFinder_byteOf 5 = .ok (.lushr, 1) := by decide +kernel
theorem d_TypeFinder_byteOf_6 : decode b_TypeFinder_byteOf 6 = .ok (.l2i, 1) := by decide +kernel
theorem d_TypeFinder_byteOf_7 : decode b_TypeFinder_byteOf 7 = .ok (.sipush 255, 3) := by decide +kernel
theorem d_TypeFinder_byteOf_10 : decode b_TypeFinder_byteOf 10 = .ok (.iand, 1) := by decide +kernel
theorem d_TypeFinder_byteOf_11 : decode b_TypeFinder_byteOf 11 = .ok (.ireturn, 1) := by decide +kernel
theorem d_TypeFinder_type_0 : decode b_TypeFinder_type 0 = .ok (.iconst 0, 1) := by decide +kernel
theorem d_TypeFinder_type_1 : decode b_TypeFinder_type 1 = .ok (.istore_n 3, 1) := by decide +kernel
theorem d_TypeFinder_type_2 : decode b_TypeFinder_type 2 = .ok (.iload_n 3, 1) := by decide +kernel
theorem d_TypeFinder_type_3 : decode b_TypeFinder_type 3 = .ok (.bipush 8, 2) := by decide +kernel
theorem d_TypeFinder_type_5 : decode b_TypeFinder_type 5 = .ok (.if_icmp .ge 40, 3) := by decide +kernel
theorem d_TypeFinder_type_8 : decode b_TypeFinder_type 8 = .ok (.lload_n 1, 1) := by decide +kernel
theorem d_TypeFinder_type_9 : decode b_TypeFinder_type 9 = .ok (.iload_n 3, 1) := by decide +kernel
theorem d_TypeFinder_type_10 : decode b_TypeFinder_type 10 = .ok (.invokestatic 43, 3) := by decide +kernel
theorem d_TypeFinder_type_13 : decode b_TypeFinder_type 13 = .ok (.ifCond .eq 32, 3) := by decide +kernel
theorem d_TypeFinder_type_16 : decode b_TypeFinder_type 16 = .ok (.lload_n 1, 1) := by decide +kernel
theorem d_TypeFinder_type_17 : decode b_TypeFinder_type 17 = .ok (.iload_n 3, 1) := by decide +kernel
theorem d_TypeFinder_type_18 : decode b_TypeFinder_type 18 = .ok (.invokestatic 43, 3) := by decide +kernel
theorem d_TypeFinder_type_21 : decode b_TypeFinder_type 21 = .ok (.istore 4, 2) := by decide +kernel
theorem d_TypeFinder_type_23 : decode b_TypeFinder_type 23 = .ok (.iload 4, 2) := by decide +kernel
theorem d_TypeFinder_type_25 : decode b_TypeFinder_type 25 = .ok (.bipush 32, 2) := by decide +kernel
theorem d_TypeFinder_type_27 : decode b_TypeFinder_type 27 = .ok (.if_icmp .lt 10, 3) := by decide +kernel
theorem d_TypeFinder_type_30 : decode b_TypeFinder_type 30 = .ok (.iload 4, 2) := by decide +kernel
theorem d_TypeFinder_type_32 : decode b_TypeFinder_type 32 = .ok (.bipush 126, 2) := by decide +kernel
theorem d_TypeFinder_type_34 : decode b_TypeFinder_type 34 = .ok (.if_icmp .le 5, 3) := by decide +kernel
theorem d_TypeFinder_type_37 : decode b_TypeFinder_type 37 = .ok (.iconst 0, 1) := by decide +kernel
theorem d_TypeFinder_type_38 : decode b_TypeFinder_type 38 = .ok (.ireturn, 1) := by decide +kernel
theorem d_TypeFinder_type_39 : decode b_TypeFinder_type 39 = .ok (.iinc 3 1, 3) := by decide +kernel
theorem d_TypeFinder_type_42 : decode b_TypeFinder_type 42 = .ok (.goto (-40), 3) := by decide +kernel
theorem d_TypeFinder_type_45 : decode b_TypeFinder_type 45 = .ok (.iload_n 3, 1) := by decide +kernel
theorem d_TypeFinder_type_46 : decode b_TypeFinder_type 46 = .ok (.ifCond .eq 14, 3) := by decide +kernel
theorem d_TypeFinder_type_49 : decode b_TypeFinder_type 49 = .ok (.aload_n 0, 1) := by decide +kernel
theorem d_TypeFinder_type_50 : decode b_TypeFinder_type 50 = .ok (.getfield 47, 3) := by decide +kernel
theorem d_TypeFinder_type_53 : decode b_TypeFinder_type 53 = .ok (.iload_n 3, 1) := by decide +kernel
theorem d_TypeFinder_type_54 : decode b_TypeFinder_type 54 = .ok (.iadd, 1) := by decide +kernel
theorem d_TypeFinder_type_55 : decode b_TypeFinder_type 55 = .ok (.bipush 80, 2) := by decide +kernel
theorem d_TypeFinder_type_57 : decode b_TypeFinder_type 57 = .ok (.if_icmp .le 5, 3) := by decide +kernel
theorem d_TypeFinder_type_60 : decode b_TypeFinder_type 60 = .ok (.iconst 0, 1) := by decide +kernel
theorem d_TypeFinder_type_61 : decode b_TypeFinder_type 61 = .ok (.ireturn, 1) := by decide +kernel
theorem d_TypeFinder_type_62 : decode b_TypeFinder_type 62 = .ok (.iconst 0, 1) := by decide +kernel
theorem d_TypeFinder_type_63 : decode b_TypeFinder_type 63 = .ok (.istore 4, 2) := by decide +kernel
theorem d_TypeFinder_type_65 : decode b_TypeFinder_type 65 = .ok (.iload 4, 2) := by decide +kernel
theorem d_TypeFinder_type_67 : decode b_TypeFinder_type 67 = .ok (.iload_n 3, 1) := by decide +kernel
theorem d_TypeFinder_type_68 : decode b_TypeFinder_type 68 = .ok (.if_icmp .ge 35, 3) := by decide +kernel
theorem d_TypeFinder_type_71 : decode b_TypeFinder_type 71 = .ok (.aload_n 0, 1) := by decide +kernel
theorem d_TypeFinder_type_72 : decode b_TypeFinder_type 72 = .ok (.getfield 9, 3) := by decide +kernel
theorem d_TypeFinder_type_75 : decode b_TypeFinder_type 75 = .ok (.aload_n 0, 1) := by decide +kernel
theorem d_TypeFinder_type_76 : decode b_TypeFinder_type 76 = .ok (.getfield 47, 3) := by decide +kernel
theorem d_TypeFinder_type_79 : decode b_TypeFinder_type 79 = .ok (.lload_n 1, 1) := by decide +kernel
theorem d_TypeFinder_type_80 : decode b_TypeFinder_type 80 = .ok (.iload 4, 2) := by decide +kernel
theorem d_TypeFinder_type_82 : decode b_TypeFinder_type 82 = .ok (.invokestatic 43, 3) := by decide +kernel
theorem d_TypeFinder_type_85 : decode b_TypeFinder_type 85 = .ok (.i2c, 1) := by decide +kernel
theorem d_TypeFinder_type_86 : decode b_TypeFinder_type 86 = .ok (.castore, 1) := by decide +kernel
theorem d_TypeFinder_type_87 : decode b_TypeFinder_type 87 = .ok (.aload_n 0, 1) := by decide +kernel
theorem d_TypeFinder_type_88 : decode b_TypeFinder_type 88 = .ok (.dup, 1) := by decide +kernel
theorem d_TypeFinder_type_89 : decode b_TypeFinder_type 89 = .ok (.getfield 47, 3) := by decide +kernel
theorem d_TypeFinder_type_92 : decode b_TypeFinder_type 92 = .ok (.iconst 1, 1) := by decide +kernel
theorem d_TypeFinder_type_93 : decode b_TypeFinder_type 93 = .ok (.iadd, 1) := by decide +kernel
theorem d_TypeFinder_type_94 : decode b_TypeFinder_type 94 = .ok (.putfield 47, 3) := by decide +kernel
theorem d_TypeFinder_type_97 : decode b_TypeFinder_type 97 = .ok (.iinc 4 1, 3) := by decide +kernel
theorem d_TypeFinder_type_100 : decode b_TypeFinder_type 100 = .ok (.goto (-35), 3) := by decide +kernel
