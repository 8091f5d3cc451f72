theorem d_AbstractCollection_init_0 : decode b_AbstractCollection_init 0 = .ok (.aload_n 0, 1) := by decide +kernel
theorem d_AbstractCollection_init_1 : decode b_AbstractCollection_init 1 = .ok (.invokespecial 1, 3) := by decide +kernel
theorem d_AbstractCollection_init_4 : decode b_AbstractCollection_init 4 = .ok (.return_, 1) := by decide +kernel
theorem d_AbstractList_init_0 : decode b_AbstractList_init 0 = .ok (.aload_n 0, 1) := by decide +kernel
theorem d_AbstractList_init_1 : decode b_AbstractList_init 1 = .ok (.invokespecial 1, 3) := by decide +kernel
theorem d_AbstractList_init_4 : decode b_AbstractList_init 4 = .ok (.aload_n 0, 1) := by decide +kernel
theorem d_AbstractList_init_5 : decode b_AbstractList_init 5 = .ok (.iconst 0, 1) := by decide +kernel
theorem d_AbstractList_init_6 : decode b_AbstractList_init 6 = .ok (.putfield 7, 3) := by decide +kernel
theorem d_AbstractList_init_9 : decode b_AbstractList_init 9 = .ok (.return_, 1) := by decide +kernel
theorem d_AbstractStringBuilder_init_0 : decode b_AbstractStringBuilder_init 0 = .ok (.aload_n 0, 1) := by decide +kernel
theorem d_AbstractStringBuilder_init_1 : decode b_AbstractStringBuilder_init 1 = .ok (.invokespecial 3, 3) := by decide +kernel
theorem d_AbstractStringBuilder_init_4 : decode b_AbstractStringBuilder_init 4 = .ok (.getstatic 18, 3) := by decide +kernel
theorem d_AbstractStringBuilder_init_7 : decode b_AbstractStringBuilder_init 7 = .ok (.ifCond .eq 18, 3) := by decide +kernel
theorem d_AbstractStringBuilder_init_10 : decode b_AbstractStringBuilder_init 10 = .ok (.aload_n 0, 1) := by decide +kernel
theorem d_AbstractStringBuilder_init_11 : decode b_AbstractStringBuilder_init 11 = .ok (.iload_n 1, 1) := by decide +kernel
theorem d_AbstractStringBuilder_init_12 : decode b_AbstractStringBuilder_init 12 = .ok (.newarray .byte, 2) := by decide +kernel
theorem d_AbstractStringBuilder_init_14 : decode b_AbstractStringBuilder_init 14 = .ok (.putfield 15, 3) := by decide +kernel
theorem d_AbstractStringBuilder_init_17 : decode b_AbstractStringBuilder_init 17 = .ok (.aload_n 0, 1) := by decide +kernel
theorem d_AbstractStringBuilder_init_18 : decode b_AbstractStringBuilder_init 18 = .ok (.iconst 0, 1) := by decide +kernel
theorem d_AbstractStringBuilder_init_19 : decode b_AbstractStringBuilder_init 19 = .ok (.putfield 22, 3) := by decide +kernel
theorem d_AbstractStringBuilder_init_22 : decode b_AbstractStringBuilder_init 22 = .ok (.goto 16, 3) := by decide +kernel
theorem d_AbstractStringBuilder_init_38 : decode b_AbstractStringBuilder_init 38 = .ok (.return_, 1) := by decide +kernel
theorem d_ArrayList_add_0 : decode b_ArrayList_add 0 = .ok (.iload_n 3, 1) := by decide +kernel
theorem d_ArrayList_add_1 : decode b_ArrayList_add 1 = .ok (.aload_n 2, 1) := by decide +kernel
theorem d_ArrayList_add_2 : decode b_ArrayList_add 2 = .ok (.arraylength, 1) := by decide +kernel
theorem d_ArrayList_add_3 : decode b_ArrayList_add 3 = .ok (.if_icmp .ne 8, 3) := by decide +kernel
theorem d_ArrayList_add_6 : decode b_ArrayList_add 6 = .ok (.aload_n 0, 1) := by decide +kernel
theorem d_ArrayList_add_7 : decode b_ArrayList_add 7 = .ok (.invokevirtual 129, 3) := by decide +kernel
theorem d_ArrayList_add_10 : decode b_ArrayList_add 10 = .ok (.astore_n 2, 1) := by decide +kernel
theorem d_ArrayList_add_11 : decode b_ArrayList_add 11 = .ok (.aload_n 2, 1) := by decide +kernel
theorem d_ArrayList_add_12 : decode b_ArrayList_add 12 = .ok (.iload_n 3, 1) := by decide +kernel
theorem d_ArrayList_add_13 : decode b_ArrayList_add 13 = .ok (.aload_n 1, 1) := by decide +kernel
theorem d_ArrayList_add_14 : decode b_ArrayList_add 14 = .ok (.aastore, 1) := by decide +kernel
theorem d_ArrayList_add_15 : decode b_ArrayList_add 15 = .ok (.aload_n 0, 1) := by decide +kernel
theorem d_ArrayList_add_16 : decode b_ArrayList_add 16 = .ok (.iload_n 3, 1) := by decide +kernel
theorem d_ArrayList_add_17 : decode b_ArrayList_add 17 = .ok (.iconst 1, 1) := by decide +kernel
theorem d_ArrayList_add_18 : decode b_ArrayList_add 18 = .ok (.iadd, 1) := by decide +kernel
theorem d_ArrayList_add_19 : decode b_ArrayList_add 19 = .ok (.putfield 48, 3) := by decide +kernel
theorem d_ArrayList_add_22 : decode b_ArrayList_add 22 = .ok (.return_, 1) := by decide +kernel
theorem d_ArrayList_add2_0 : decode b_ArrayList_add2 0 = .ok (.aload_n 0, 1) := by decide +kernel
theorem d_ArrayList_add2_1 : decode b_ArrayList_add2 1 = .ok (.dup, 1) := by decide +kernel
theorem d_ArrayList_add2_2 : decode b_ArrayList_add2 2 = .ok (.getfield 63, 3) := by decide +kernel
theorem d_ArrayList_add2_5 : decode b_ArrayList_add2 5 = .ok (.iconst 1, 1) := by decide +kernel
theorem d_ArrayList_add2_6 : decode b_ArrayList_add2 6 = .ok (.iadd, 1) := by decide +kernel
theorem d_ArrayList_add2_7 : decode b_ArrayList_add2 7 = .ok (.putfield 63, 3) := by decide +kernel
theorem d_ArrayList_add2_10 : decode b_ArrayList_add2 10 = .ok (.aload_n 0, 1) := by decide +kernel
theorem d_ArrayList_add2_11 : decode b_ArrayList_add2 11 = .ok (.aload_n 1, 1) := by decide +kernel
theorem d_ArrayList_add2_12 : decode b_ArrayList_add2 12 = .ok (.aload_n 0, 1) := by decide +kernel
theorem d_ArrayList_add2_13 : decode b_ArrayList_add2 13 = .ok (.getfield 9, 3) := by decide +kernel
theorem d_ArrayList_add2_16 : decode b_ArrayList_add2 16 = .ok (.aload_n 0, 1) := by decide +kernel
theorem d_ArrayList_add2_17 : decode b_ArrayList_add2 17 = .ok (.getfield 48, 3) := by decide +kernel
theorem d_ArrayList_add2_20 : decode b_ArrayList_add2 20 = .ok (.invokevirtual 131, 3) := by decide +kernel
theorem d_ArrayList_add2_23 : decode b_ArrayList_add2 23 = .ok (.iconst 1, 1) := by decide +kernel
theorem d_ArrayList_add2_24 : decode b_ArrayList_add2 24 = .ok (.ireturn, 1) := by decide +kernel
theorem d_ArrayList_grow_0 : decode b_ArrayList_grow 0 = .ok (.aload_n 0, 1) := by decide +kernel
theorem d_ArrayList_grow_1 : decode b_ArrayList_grow 1 = .ok (.getfield 9, 3) := by decide +kernel
theorem d_ArrayList_grow_4 : decode b_ArrayList_grow 4 = .ok (.arraylength, 1) := by decide +kernel
theorem d_ArrayList_grow_5 : decode b_ArrayList_grow 5 = .ok (.istore_n 2, 1) := by decide +kernel
theorem d_ArrayList_grow_6 : decode b_ArrayList_grow 6 = .ok (.iload_n 2, 1) := by decide +kernel
theorem d_ArrayList_grow_7 : decode b_ArrayList_grow 7 = .ok (.ifCond .gt 13, 3) := by decide +kernel
theorem d_ArrayList_grow_10 : decode b_ArrayList_grow 10 = .ok (.aload_n 0, 1) := by decide +kernel
theorem d_ArrayList_grow_11 : decode b_ArrayList_grow 11 = .ok (.getfield 9, 3) := by decide +kernel
theorem d_ArrayList_grow_14 : decode b_ArrayList_grow 14 = .ok (.getstatic 39, 3) := by decide +kernel
theorem d_ArrayList_grow_17 : decode b_ArrayList_grow 17 = .ok (.if_acmp .eq 28, 3) := by decide +kernel
theorem d_ArrayList_grow_45 : decode b_ArrayList_grow 45 = .ok (.aload_n 0, 1) := by decide +kernel
theorem d_ArrayList_grow_46 : decode b_ArrayList_grow 46 = .ok (.bipush 10, 2) := by decide +kernel
theorem d_ArrayList_grow_48 : decode b_ArrayList_grow 48 = .ok (.iload_n 1, 1) := by decide +kernel
theorem d_ArrayList_grow_49 : decode b_ArrayList_grow 49 = .ok (.invokestatic 79, 3) := by decide +kernel
theorem d_ArrayList_grow_52 : decode b_ArrayList_grow 52 = .ok (.anewarray 7, 3) := by decide +kernel
theorem d_ArrayList_grow_55 : decode b_ArrayList_grow 55 = .ok (.dup_x1, 1) := by decide +kernel
theorem d_ArrayList_grow_56 : decode b_ArrayList_grow 56 = .ok (.putfield 9, 3) := by decide +kernel
theorem d_ArrayList_grow_59 : decode b_ArrayList_grow 59 = .ok (.areturn, 1) := by decide +kernel
theorem d_ArrayList_grow2_0 : decode b_ArrayList_grow2 0 = .ok (.aload_n 0, 1) := by decide +kernel
theorem d_ArrayList_grow2_1 : decode b_ArrayList_grow2 1 = .ok (.aload_n 0, 1) := by decide +kernel
theorem d_ArrayList_grow2_2 : decode b_ArrayList_grow2 2 = .ok (.getfield 48, 3) := by decide +kernel
theorem d_ArrayList_grow2_5 : decode b_ArrayList_grow2 5 = .ok (.iconst 1, 1) := by decide +kernel
theorem d_ArrayList_grow2_6 : decode b_ArrayList_grow2 6 = .ok (.iadd, 1) := by decide +kernel
theorem d_ArrayList_grow2_7 : decode b_ArrayList_grow2 7 = .ok (.invokevirtual 69, 3) := by decide +kernel
theorem d_ArrayList_grow2_10 : decode b_ArrayList_grow2 10 = .ok (.areturn, 1) := by decide +kernel
theorem d_ArrayList_init_0 : decode b_ArrayList_init 0 = .ok (.aload_n 0, 1) := by decide +kernel
theorem d_ArrayList_init_1 : decode b_ArrayList_init 1 = .ok (.invokespecial 1, 3) := by decide +kernel
theorem d_ArrayList_init_4 : decode b_ArrayList_init 4 = .ok (.aload_n 0, 1) := by decide +kernel
theorem d_ArrayList_init_5 : decode b_ArrayList_init 5 = .ok (.getstatic 39, 3) := by decide +kernel
theorem d_ArrayList_init_8 : decode b_ArrayList_init 8 = .ok (.putfield 9, 3) := by decide +kernel
theorem d_ArrayList_init_11 : decode b_ArrayList_init 11 = .ok (.return_, 1) := by decide +kernel
theorem d_ArrayList_size_0 : decode b_ArrayList_size 0 = .ok (.aload_n 0, 1) := by decide +kernel
theorem d_ArrayList_size_1 : decode b_ArrayList_size 1 = .ok (.getfield 48, 3) := by decide +kernel
theorem d_ArrayList_size_4 : decode b_ArrayList_size 4 = .ok (.ireturn, 1) := by decide +kernel
theorem d_Arrays_checkLength_0 : decode b_Arrays_checkLength 0 = .ok (.iload_n 1, 1) := by decide +kernel
theorem d_Arrays_checkLength_1 : decode b_Arrays_checkLength 1 = .ok (.iload_n 0, 1) := by decide +kernel
theorem d_Arrays_checkLength_2 : decode b_Arrays_checkLength 2 = .ok (.if_icmp .ge 35, 3) := by decide +kernel
theorem d_Arrays_checkLength_37 : decode b_Arrays_checkLength 37 = .ok (.return_, 1) := by decide +kernel
theorem d_Arrays_copyOfRange_0 : decode b_Arrays_copyOfRange 0 = .ok (.iload_n 1, 1) := by decide +kernel
theorem d_Arrays_copyOfRange_1 : decode b_Arrays_copyOfRange 1 = .ok (.ifCond .ne 9, 3) := by decide +kernel
theorem d_Arrays_copyOfRange_4 : decode b_Arrays_copyOfRange 4 = .ok (.iload_n 2, 1) := by decide +kernel
theorem d_Arrays_copyOfRange_5 : decode b_Arrays_copyOfRange 5 = .ok (.aload_n 0, 1) := by decide +kernel
theorem d_Arrays_copyOfRange_6 : decode b_Arrays_copyOfRange 6 = .ok (.arraylength, 1) := by decide +kernel
theorem d_Arrays_copyOfRange_7 : decode b_Arrays_copyOfRange 7 = .ok (.if_icmp .eq 10, 3) := by decide +kernel
theorem d_Arrays_copyOfRange_10 : decode b_Arrays_copyOfRange 10 = .ok (.aload_n 0, 1) := by decide +kernel
theorem d_Arrays_copyOfRange_11 : decode b_Arrays_copyOfRange 11 = .ok (.iload_n 1, 1) := by decide +kernel
theorem d_Arrays_copyOfRange_12 : decode b_Arrays_copyOfRange 12 = .ok (.iload_n 2, 1) := by decide +kernel
theorem d_Arrays_copyOfRange_13 : decode b_Arrays_copyOfRange 13 = .ok (.invokestatic 339, 3) := by decide +kernel
theorem d_Arrays_copyOfRange_16 : decode b_Arrays_copyOfRange 16 = .ok (.areturn, 1) := by decide +kernel
theorem d_Arrays_copyOfRangeByte_0 : decode b_Arrays_copyOfRangeByte 0 = .ok (.iload_n 1, 1) := by decide +kernel
theorem d_Arrays_copyOfRangeByte_1 : decode b_Arrays_copyOfRangeByte 1 = .ok (.iload_n 2, 1) := by decide +kernel
theorem d_Arrays_copyOfRangeByte_2 : decode b_Arrays_copyOfRangeByte 2 = .ok (.invokestatic 343, 3) := by decide +kernel
theorem d_Arrays_copyOfRangeByte_5 : decode b_Arrays_copyOfRangeByte 5 = .ok (.iload_n 2, 1) := by decide +kernel
theorem d_Arrays_copyOfRangeByte_6 : decode b_Arrays_copyOfRangeByte 6 = .ok (.iload_n 1, 1) := by decide +kernel
theorem d_Arrays_copyOfRangeByte_7 : decode b_Arrays_copyOfRangeByte 7 = .ok (.isub, 1) := by decide +kernel
theorem d_Arrays_copyOfRangeByte_8 : decode b_Arrays_copyOfRangeByte 8 = .ok (.istore_n 3, 1) := by decide +kernel
theorem d_Arrays_copyOfRangeByte_9 : decode b_Arrays_copyOfRangeByte 9 = .ok (.iload_n 3, 1) := by decide +kernel
theorem d_Arrays_copyOfRangeByte_10 : decode b_Arrays_copyOfRangeByte 10 = .ok (.newarray .byte, 2) := by decide +kernel
theorem d_Arrays_copyOfRangeByte_12 : decode b_Arrays_copyOfRangeByte 12 = .ok (.astore 4, 2) := by decide +kernel
theorem d_Arrays_copyOfRangeByte_14 : decode b_Arrays_copyOfRangeByte 14 = .ok (.aload_n 0, 1) := by decide +kernel
theorem d_Arrays_copyOfRangeByte_15 : decode b_Arrays_copyOfRangeByte 15 = .ok (.iload_n 1, 1) := by decide +kernel
theorem d_Arrays_copyOfRangeByte_16 : decode b_Arrays_copyOfRangeByte 16 = .ok (.aload 4, 2) := by decide +kernel
theorem d_Arrays_copyOfRangeByte_18 : decode b_Arrays_copyOfRangeByte 18 = .ok (.iconst 0, 1) := by decide +kernel
theorem d_Arrays_copyOfRangeByte_19 : decode b_Arrays_copyOfRangeByte 19 = .ok (.aload_n 0, 1) := by decide +kernel
theorem d_Arrays_copyOfRangeByte_20 : decode b_Arrays_copyOfRangeByte 20 = .ok (.arraylength, 1) := by decide +kernel
theorem d_Arrays_copyOfRangeByte_21 : decode b_Arrays_copyOfRangeByte 21 = .ok (.iload_n 1, 1) := by decide +kernel
theorem d_Arrays_copyOfRangeByte_22 : decode b_Arrays_copyOfRangeByte 22 = .ok (.isub, 1) := by decide +kernel
theorem d_Arrays_copyOfRangeByte_23 : decode b_Arrays_copyOfRangeByte 23 = .ok (.iload_n 3, 1) := by decide +kernel
theorem d_Arrays_copyOfRangeByte_24 : decode b_Arrays_copyOfRangeByte 24 = .ok (.invokestatic 304, 3) := by decide +kernel
theorem d_Arrays_copyOfRangeByte_27 : decode b_Arrays_copyOfRangeByte 27 = .ok (.invokestatic 150, 3) := by decide +kernel
theorem d_Arrays_copyOfRangeByte_30 : decode b_Arrays_copyOfRangeByte 30 = .ok (.aload 4, 2) := by decide +kernel
theorem d_Arrays_copyOfRangeByte_32 : decode b_Arrays_copyOfRangeByte 32 = .ok (.areturn, 1) := by decide +kernel
theorem d_Preconditions_checkFromToIndex_0 : decode b_Preconditions_checkFromToIndex 0 = .ok (.iload_n 0, 1) := by decide +kernel
theorem d_Preconditions_checkFromToIndex_1 : decode b_Preconditions_checkFromToIndex 1 = .ok (.ifCond .lt 13, 3) := by decide +kernel
theorem d_Preconditions_checkFromToIndex_4 : decode b_Preconditions_checkFromToIndex 4 = .ok (.iload_n 0, 1) := by decide +kernel
theorem d_Preconditions_checkFromToIndex_5 : decode b_Preconditions_checkFromToIndex 5 = .ok (.iload_n 1, 1) := by decide +kernel
theorem d_Preconditions_checkFromToIndex_6 : decode b_Preconditions_checkFromToIndex 6 = .ok (.if_icmp .gt 8, 3) := by decide +kernel
theorem d_Preconditions_checkFromToIndex_9 : decode b_Preconditions_checkFromToIndex 9 = .ok (.iload_n 1, 1) := by decide +kernel
theorem d_Preconditions_checkFromToIndex_10 : decode b_Preconditions_checkFromToIndex 10 = .ok (.iload_n 2, 1) := by decide +kernel
theorem d_Preconditions_checkFromToIndex_11 : decode b_Preconditions_checkFromToIndex 11 = .ok (.if_icmp .le 11, 3) := by decide +kernel
theorem d_Preconditions_checkFromToIndex_22 : decode b_Preconditions_checkFromToIndex 22 = .ok (.iload_n 0, 1) := by decide +kernel
theorem d_Preconditions_checkFromToIndex_23 : decode b_Preconditions_checkFromToIndex 23 = .ok (.ireturn, 1) := by decide +kernel
theorem d_Preconditions_checkIndex_0 : decode b_Preconditions_checkIndex 0 = .ok (.iload_n 0, 1) := by decide +kernel
theorem d_Preconditions_checkIndex_1 : decode b_Preconditions_checkIndex 1 = .ok (.ifCond .lt 8, 3) := by decide +kernel
theorem d_Preconditions_checkIndex_4 : decode b_Preconditions_checkIndex 4 = .ok (.iload_n 0, 1) := by decide +kernel
theorem d_Preconditions_checkIndex_5 : decode b_Preconditions_checkIndex 5 = .ok (.iload_n 1, 1) := by decide +kernel
theorem d_Preconditions_checkIndex_6 : decode b_Preconditions_checkIndex 6 = .ok (.if_icmp .lt 10, 3) := by decide +kernel
theorem d_Preconditions_checkIndex_16 : decode b_Preconditions_checkIndex 16 = .ok (.iload_n 0, 1) := by decide +kernel
theorem d_Preconditions_checkIndex_17 : decode b_Preconditions_checkIndex 17 = .ok (.ireturn, 1) := by decide +kernel
theorem d_StringBuilder_init_0 : decode b_StringBuilder_init 0 = .ok (.aload_n 0, 1) := by decide +kernel
theorem d_StringBuilder_init_1 : decode b_StringBuilder_init 1 = .ok (.bipush 16, 2) := by decide +kernel
theorem d_StringBuilder_init_3 : decode b_StringBuilder_init 3 = .ok (.invokespecial 1, 3) := by decide +kernel
theorem d_StringBuilder_init_6 : decode b_StringBuilder_init 6 = .ok (.return_, 1) := by decide +kernel
theorem d_StringLatin1_charAt_0 : decode b_StringLatin1_charAt 0 = .ok (.iload_n 1, 1) := by decide +kernel
theorem d_StringLatin1_charAt_1 : decode b_StringLatin1_charAt 1 = .ok (.aload_n 0, 1) := by decide +kernel
theorem d_StringLatin1_charAt_2 : decode b_StringLatin1_charAt 2 = .ok (.arraylength, 1) := by decide +kernel
