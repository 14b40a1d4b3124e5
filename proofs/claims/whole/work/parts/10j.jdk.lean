theorem dJ_Arrays_fill_0 : decode cJ_Arrays_fill 0 = .ok (.iconst 0, 1) := by decide +kernel
theorem dJ_Arrays_fill_1 : decode cJ_Arrays_fill 1 = .ok (.istore_n 2, 1) := by decide +kernel
theorem dJ_Arrays_fill_2 : decode cJ_Arrays_fill 2 = .ok (.aload_n 0, 1) := by decide +kernel
theorem dJ_Arrays_fill_3 : decode cJ_Arrays_fill 3 = .ok (.arraylength, 1) := by decide +kernel
theorem dJ_Arrays_fill_4 : decode cJ_Arrays_fill 4 = .ok (.istore_n 3, 1) := by decide +kernel
theorem dJ_Arrays_fill_5 : decode cJ_Arrays_fill 5 = .ok (.iload_n 2, 1) := by decide +kernel
theorem dJ_Arrays_fill_6 : decode cJ_Arrays_fill 6 = .ok (.iload_n 3, 1) := by decide +kernel
theorem dJ_Arrays_fill_7 : decode cJ_Arrays_fill 7 = .ok (.if_icmp .ge 13, 3) := by decide +kernel
theorem dJ_Arrays_fill_10 : decode cJ_Arrays_fill 10 = .ok (.aload_n 0, 1) := by decide +kernel
theorem dJ_Arrays_fill_11 : decode cJ_Arrays_fill 11 = .ok (.iload_n 2, 1) := by decide +kernel
theorem dJ_Arrays_fill_12 : decode cJ_Arrays_fill 12 = .ok (.iload_n 1, 1) := by decide +kernel
theorem dJ_Arrays_fill_13 : decode cJ_Arrays_fill 13 = .ok (.iastore, 1) := by decide +kernel
theorem dJ_Arrays_fill_14 : decode cJ_Arrays_fill 14 = .ok (.iinc 2 1, 3) := by decide +kernel
theorem dJ_Arrays_fill_17 : decode cJ_Arrays_fill 17 = .ok (.goto (-12), 3) := by decide +kernel
theorem dJ_Arrays_fill_20 : decode cJ_Arrays_fill 20 = .ok (.return_, 1) := by decide +kernel
theorem dJ_Arrays_copyOf_0 : decode cJ_Arrays_copyOf 0 = .ok (.iload_n 1, 1) := by decide +kernel
theorem dJ_Arrays_copyOf_1 : decode cJ_Arrays_copyOf 1 = .ok (.aload_n 0, 1) := by decide +kernel
theorem dJ_Arrays_copyOf_2 : decode cJ_Arrays_copyOf 2 = .ok (.arraylength, 1) := by decide +kernel
theorem dJ_Arrays_copyOf_3 : decode cJ_Arrays_copyOf 3 = .ok (.if_icmp .ne 11, 3) := by decide +kernel
theorem dJ_Arrays_copyOf_6 : decode cJ_Arrays_copyOf 6 = .ok (.aload_n 0, 1) := by decide +kernel
theorem dJ_Arrays_copyOf_7 : decode cJ_Arrays_copyOf 7 = .ok (.invokevirtual 316, 3) := by decide +kernel
theorem dJ_Arrays_copyOf_10 : decode cJ_Arrays_copyOf 10 = .ok (.checkcast 317, 3) := by decide +kernel
theorem dJ_Arrays_copyOf_13 : decode cJ_Arrays_copyOf 13 = .ok (.areturn, 1) := by decide +kernel
theorem dJ_Arrays_copyOf_14 : decode cJ_Arrays_copyOf 14 = .ok (.iload_n 1, 1) := by decide +kernel
theorem dJ_Arrays_copyOf_15 : decode cJ_Arrays_copyOf 15 = .ok (.newarray .int, 2) := by decide +kernel
theorem dJ_Arrays_copyOf_17 : decode cJ_Arrays_copyOf 17 = .ok (.astore_n 2, 1) := by decide +kernel
theorem dJ_Arrays_copyOf_18 : decode cJ_Arrays_copyOf 18 = .ok (.aload_n 0, 1) := by decide +kernel
theorem dJ_Arrays_copyOf_19 : decode cJ_Arrays_copyOf 19 = .ok (.iconst 0, 1) := by decide +kernel
theorem dJ_Arrays_copyOf_20 : decode cJ_Arrays_copyOf 20 = .ok (.aload_n 2, 1) := by decide +kernel
theorem dJ_Arrays_copyOf_21 : decode cJ_Arrays_copyOf 21 = .ok (.iconst 0, 1) := by decide +kernel
theorem dJ_Arrays_copyOf_22 : decode cJ_Arrays_copyOf 22 = .ok (.aload_n 0, 1) := by decide +kernel
theorem dJ_Arrays_copyOf_23 : decode cJ_Arrays_copyOf 23 = .ok (.arraylength, 1) := by decide +kernel
theorem dJ_Arrays_copyOf_24 : decode cJ_Arrays_copyOf 24 = .ok (.iload_n 1, 1) := by decide +kernel
theorem dJ_Arrays_copyOf_25 : decode cJ_Arrays_copyOf 25 = .ok (.invokestatic 304, 3) := by decide +kernel
theorem dJ_Arrays_copyOf_28 : decode cJ_Arrays_copyOf 28 = .ok (.invokestatic 150, 3) := by decide +kernel
theorem dJ_Arrays_copyOf_31 : decode cJ_Arrays_copyOf 31 = .ok (.aload_n 2, 1) := by decide +kernel
theorem dJ_Arrays_copyOf_32 : decode cJ_Arrays_copyOf 32 = .ok (.areturn, 1) := by decide +kernel
theorem dJ_String_length_0 : decode cJ_String_length 0 = .ok (.aload_n 0, 1) := by decide +kernel
theorem dJ_String_length_1 : decode cJ_String_length 1 = .ok (.getfield 9, 3) := by decide +kernel
theorem dJ_String_length_4 : decode cJ_String_length 4 = .ok (.arraylength, 1) := by decide +kernel
theorem dJ_String_length_5 : decode cJ_String_length 5 = .ok (.aload_n 0, 1) := by decide +kernel
theorem dJ_String_length_6 : decode cJ_String_length 6 = .ok (.invokevirtual 335, 3) := by decide +kernel
theorem dJ_String_length_9 : decode cJ_String_length 9 = .ok (.ishr, 1) := by decide +kernel
theorem dJ_String_length_10 : decode cJ_String_length 10 = .ok (.ireturn, 1) := by decide +kernel
theorem dJ_String_coder_0 : decode cJ_String_coder 0 = .ok (.getstatic 38, 3) := by decide +kernel
theorem dJ_String_coder_3 : decode cJ_String_coder 3 = .ok (.ifCond .eq 10, 3) := by decide +kernel
theorem dJ_String_coder_6 : decode cJ_String_coder 6 = .ok (.aload_n 0, 1) := by decide +kernel
theorem dJ_String_coder_7 : decode cJ_String_coder 7 = .ok (.getfield 15, 3) := by decide +kernel
theorem dJ_String_coder_10 : decode cJ_String_coder 10 = .ok (.goto 4, 3) := by decide +kernel
theorem dJ_String_coder_13 : decode cJ_String_coder 13 = .ok (.iconst 1, 1) := by decide +kernel
theorem dJ_String_coder_14 : decode cJ_String_coder 14 = .ok (.ireturn, 1) := by decide +kernel
theorem dJ_String_charAt_0 : decode cJ_String_charAt 0 = .ok (.aload_n 0, 1) := by decide +kernel
theorem dJ_String_charAt_1 : decode cJ_String_charAt 1 = .ok (.invokevirtual 492, 3) := by decide +kernel
theorem dJ_String_charAt_4 : decode cJ_String_charAt 4 = .ok (.ifCond .eq 12, 3) := by decide +kernel
theorem dJ_String_charAt_7 : decode cJ_String_charAt 7 = .ok (.aload_n 0, 1) := by decide +kernel
theorem dJ_String_charAt_8 : decode cJ_String_charAt 8 = .ok (.getfield 9, 3) := by decide +kernel
theorem dJ_String_charAt_11 : decode cJ_String_charAt 11 = .ok (.iload_n 1, 1) := by decide +kernel
theorem dJ_String_charAt_12 : decode cJ_String_charAt 12 = .ok (.invokestatic 495, 3) := by decide +kernel
theorem dJ_String_charAt_15 : decode cJ_String_charAt 15 = .ok (.ireturn, 1) := by decide +kernel
theorem dJ_String_charAt_16 : decode cJ_String_charAt 16 = .ok (.aload_n 0, 1) := by decide +kernel
theorem dJ_String_charAt_17 : decode cJ_String_charAt 17 = .ok (.getfield 9, 3) := by decide +kernel
theorem dJ_String_charAt_20 : decode cJ_String_charAt 20 = .ok (.iload_n 1, 1) := by decide +kernel
theorem dJ_String_charAt_21 : decode cJ_String_charAt 21 = .ok (.invokestatic 498, 3) := by decide +kernel
theorem dJ_String_charAt_24 : decode cJ_String_charAt 24 = .ok (.ireturn, 1) := by decide +kernel
theorem dJ_String_isLatin1_0 : decode cJ_String_isLatin1 0 = .ok (.getstatic 38, 3) := by decide +kernel
theorem dJ_String_isLatin1_3 : decode cJ_String_isLatin1 3 = .ok (.ifCond .eq 14, 3) := by decide +kernel
theorem dJ_String_isLatin1_6 : decode cJ_String_isLatin1 6 = .ok (.aload_n 0, 1) := by decide +kernel
theorem dJ_String_isLatin1_7 : decode cJ_String_isLatin1 7 = .ok (.getfield 15, 3) := by decide +kernel
theorem dJ_String_isLatin1_10 : decode cJ_String_isLatin1 10 = .ok (.ifCond .ne 7, 3) := by decide +kernel
theorem dJ_String_isLatin1_13 : decode cJ_String_isLatin1 13 = .ok (.iconst 1, 1) := by decide +kernel
theorem dJ_String_isLatin1_14 : decode cJ_String_isLatin1 14 = .ok (.goto 4, 3) := by decide +kernel
theorem dJ_String_isLatin1_17 : decode cJ_String_isLatin1 17 = .ok (.iconst 0, 1) := by decide +kernel
theorem dJ_String_isLatin1_18 : decode cJ_String_isLatin1 18 = .ok (.ireturn, 1) := by decide +kernel
theorem dJ_StringLatin1_charAt_0 : decode cJ_StringLatin1_charAt 0 = .ok (.iload_n 1, 1) := by decide +kernel
theorem dJ_StringLatin1_charAt_1 : decode cJ_StringLatin1_charAt 1 = .ok (.aload_n 0, 1) := by decide +kernel
theorem dJ_StringLatin1_charAt_2 : decode cJ_StringLatin1_charAt 2 = .ok (.arraylength, 1) := by decide +kernel
theorem dJ_StringLatin1_charAt_3 : decode cJ_StringLatin1_charAt 3 = .ok (.invokestatic 9, 3) := by decide +kernel
theorem dJ_StringLatin1_charAt_6 : decode cJ_StringLatin1_charAt 6 = .ok (.aload_n 0, 1) := by decide +kernel
theorem dJ_StringLatin1_charAt_7 : decode cJ_StringLatin1_charAt 7 = .ok (.iload_n 1, 1) := by decide +kernel
theorem dJ_StringLatin1_charAt_8 : decode cJ_StringLatin1_charAt 8 = .ok (.baload, 1) := by decide +kernel
theorem dJ_StringLatin1_charAt_9 : decode cJ_StringLatin1_charAt 9 = .ok (.sipush 255, 3) := by decide +kernel
theorem dJ_StringLatin1_charAt_12 : decode cJ_StringLatin1_charAt 12 = .ok (.iand, 1) := by decide +kernel
theorem dJ_StringLatin1_charAt_13 : decode cJ_StringLatin1_charAt 13 = .ok (.i2c, 1) := by decide +kernel
theorem dJ_StringLatin1_charAt_14 : decode cJ_StringLatin1_charAt 14 = .ok (.ireturn, 1) := by decide +kernel
theorem dJ_String_checkIndex_0 : decode cJ_String_checkIndex 0 = .ok (.iload_n 0, 1) := by decide +kernel
theorem dJ_String_checkIndex_1 : decode cJ_String_checkIndex 1 = .ok (.iload_n 1, 1) := by decide +kernel
theorem dJ_String_checkIndex_2 : decode cJ_String_checkIndex 2 = .ok (.getstatic 1053, 3) := by decide +kernel
theorem dJ_String_checkIndex_5 : decode cJ_String_checkIndex 5 = .ok (.invokestatic 1059, 3) := by decide +kernel
theorem dJ_String_checkIndex_8 : decode cJ_String_checkIndex 8 = .ok (.pop, 1) := by decide +kernel
theorem dJ_String_checkIndex_9 : decode cJ_String_checkIndex 9 = .ok (.return_, 1) := by decide +kernel
theorem dJ_Preconditions_checkIndex_0 : decode cJ_Preconditions_checkIndex 0 = .ok (.iload_n 0, 1) := by decide +kernel
theorem dJ_Preconditions_checkIndex_1 : decode cJ_Preconditions_checkIndex 1 = .ok (.ifCond .lt 8, 3) := by decide +kernel
theorem dJ_Preconditions_checkIndex_4 : decode cJ_Preconditions_checkIndex 4 = .ok (.iload_n 0, 1) := by decide +kernel
theorem dJ_Preconditions_checkIndex_5 : decode cJ_Preconditions_checkIndex 5 = .ok (.iload_n 1, 1) := by decide +kernel
theorem dJ_Preconditions_checkIndex_6 : decode cJ_Preconditions_checkIndex 6 = .ok (.if_icmp .lt 10, 3) := by decide +kernel
theorem dJ_Preconditions_checkIndex_9 : decode cJ_Preconditions_checkIndex 9 = .ok (.aload_n 2, 1) := by decide +kernel
theorem dJ_Preconditions_checkIndex_10 : decode cJ_Preconditions_checkIndex 10 = .ok (.iload_n 0, 1) := by decide +kernel
theorem dJ_Preconditions_checkIndex_11 : decode cJ_Preconditions_checkIndex 11 = .ok (.iload_n 1, 1) := by decide +kernel
theorem dJ_Preconditions_checkIndex_12 : decode cJ_Preconditions_checkIndex 12 = .ok (.invokestatic 95, 3) := by decide +kernel
theorem dJ_Preconditions_checkIndex_15 : decode cJ_Preconditions_checkIndex 15 = .ok (.athrow, 1) := by decide +kernel
theorem dJ_Preconditions_checkIndex_16 : decode cJ_Preconditions_checkIndex 16 = .ok (.iload_n 0, 1) := by decide +kernel
theorem dJ_Preconditions_checkIndex_17 : decode cJ_Preconditions_checkIndex 17 = .ok (.ireturn, 1) := by decide +kernel
theorem dJ_String_indexOf1_0 : decode cJ_String_indexOf1 0 = .ok (.aload_n 0, 1) := by decide +kernel
theorem dJ_String_indexOf1_1 : decode cJ_String_indexOf1 1 = .ok (.iload_n 1, 1) := by decide +kernel
theorem dJ_String_indexOf1_2 : decode cJ_String_indexOf1 2 = .ok (.iconst 0, 1) := by decide +kernel
theorem dJ_String_indexOf1_3 : decode cJ_String_indexOf1 3 = .ok (.invokevirtual 633, 3) := by decide +kernel
theorem dJ_String_indexOf1_6 : decode cJ_String_indexOf1 6 = .ok (.ireturn, 1) := by decide +kernel
theorem dJ_String_indexOf2_0 : decode cJ_String_indexOf2 0 = .ok (.aload_n 0, 1) := by decide +kernel
theorem dJ_String_indexOf2_1 : decode cJ_String_indexOf2 1 = .ok (.invokevirtual 492, 3) := by decide +kernel
theorem dJ_String_indexOf2_4 : decode cJ_String_indexOf2 4 = .ok (.ifCond .eq 19, 3) := by decide +kernel
theorem dJ_String_indexOf2_7 : decode cJ_String_indexOf2 7 = .ok (.aload_n 0, 1) := by decide +kernel
theorem dJ_String_indexOf2_8 : decode cJ_String_indexOf2 8 = .ok (.getfield 9, 3) := by decide +kernel
theorem dJ_String_indexOf2_11 : decode cJ_String_indexOf2 11 = .ok (.iload_n 1, 1) := by decide +kernel
theorem dJ_String_indexOf2_12 : decode cJ_String_indexOf2 12 = .ok (.iload_n 2, 1) := by decide +kernel
theorem dJ_String_indexOf2_13 : decode cJ_String_indexOf2 13 = .ok (.aload_n 0, 1) := by decide +kernel
theorem dJ_String_indexOf2_14 : decode cJ_String_indexOf2 14 = .ok (.invokevirtual 505, 3) := by decide +kernel
theorem dJ_String_indexOf2_17 : decode cJ_String_indexOf2 17 = .ok (.invokestatic 637, 3) := by decide +kernel
theorem dJ_String_indexOf2_20 : decode cJ_String_indexOf2 20 = .ok (.goto 16, 3) := by decide +kernel
theorem dJ_String_indexOf2_23 : decode cJ_String_indexOf2 23 = .ok (.aload_n 0, 1) := by decide +kernel
theorem dJ_String_indexOf2_24 : decode cJ_String_indexOf2 24 = .ok (.getfield 9, 3) := by decide +kernel
theorem dJ_String_indexOf2_27 : decode cJ_String_indexOf2 27 = .ok (.iload_n 1, 1) := by decide +kernel
theorem dJ_String_indexOf2_28 : decode cJ_String_indexOf2 28 = .ok (.iload_n 2, 1) := by decide +kernel
theorem dJ_String_indexOf2_29 : decode cJ_String_indexOf2 29 = .ok (.aload_n 0, 1) := by decide +kernel
theorem dJ_String_indexOf2_30 : decode cJ_String_indexOf2 30 = .ok (.invokevirtual 505, 3) := by decide +kernel
theorem dJ_String_indexOf2_33 : decode cJ_String_indexOf2 33 = .ok (.invokestatic 640, 3) := by decide +kernel
theorem dJ_String_indexOf2_36 : decode cJ_String_indexOf2 36 = .ok (.ireturn, 1) := by decide +kernel
theorem dJ_StringLatin1_indexOf3_0 : decode cJ_StringLatin1_indexOf3 0 = .ok (.iload_n 1, 1) := by decide +kernel
theorem dJ_StringLatin1_indexOf3_1 : decode cJ_StringLatin1_indexOf3 1 = .ok (.invokestatic 88, 3) := by decide +kernel
theorem dJ_StringLatin1_indexOf3_4 : decode cJ_StringLatin1_indexOf3 4 = .ok (.ifCond .ne 5, 3) := by decide +kernel
theorem dJ_StringLatin1_indexOf3_7 : decode cJ_StringLatin1_indexOf3 7 = .ok (.iconst (-1), 1) := by decide +kernel
theorem dJ_StringLatin1_indexOf3_8 : decode cJ_StringLatin1_indexOf3 8 = .ok (.ireturn, 1) := by decide +kernel
theorem dJ_StringLatin1_indexOf3_9 : decode cJ_StringLatin1_indexOf3 9 = .ok (.iload_n 2, 1) := by decide +kernel
theorem dJ_StringLatin1_indexOf3_10 : decode cJ_StringLatin1_indexOf3 10 = .ok (.iconst 0, 1) := by decide +kernel
theorem dJ_StringLatin1_indexOf3_11 : decode cJ_StringLatin1_indexOf3 11 = .ok (.invokestatic 92, 3) := by decide +kernel
theorem dJ_StringLatin1_indexOf3_14 : decode cJ_StringLatin1_indexOf3 14 = .ok (.istore_n 2, 1) := by decide +kernel
theorem dJ_StringLatin1_indexOf3_15 : decode cJ_StringLatin1_indexOf3 15 = .ok (.iload_n 3, 1) := by decide +kernel
theorem dJ_StringLatin1_indexOf3_16 : decode cJ_StringLatin1_indexOf3 16 = .ok (.aload_n 0, 1) := by decide +kernel
theorem dJ_StringLatin1_indexOf3_17 : decode cJ_StringLatin1_indexOf3 17 = .ok (.arraylength, 1) := by decide +kernel
theorem dJ_StringLatin1_indexOf3_18 : decode cJ_StringLatin1_indexOf3 18 = .ok (.invokestatic 38, 3) := by decide +kernel
theorem dJ_StringLatin1_indexOf3_21 : decode cJ_StringLatin1_indexOf3 21 = .ok (.istore_n 3, 1) := by decide +kernel
theorem dJ_StringLatin1_indexOf3_22 : decode cJ_StringLatin1_indexOf3 22 = .ok (.iload_n 2, 1) := by decide +kernel
theorem dJ_StringLatin1_indexOf3_23 : decode cJ_StringLatin1_indexOf3 23 = .ok (.iload_n 3, 1) := by decide +kernel
theorem dJ_StringLatin1_indexOf3_24 : decode cJ_StringLatin1_indexOf3 24 = .ok (.if_icmp .lt 5, 3) := by decide +kernel
theorem dJ_StringLatin1_indexOf3_27 : decode cJ_StringLatin1_indexOf3 27 = .ok (.iconst (-1), 1) := by decide +kernel
theorem dJ_StringLatin1_indexOf3_28 : decode cJ_StringLatin1_indexOf3 28 = .ok (.ireturn, 1) := by decide +kernel
theorem dJ_StringLatin1_indexOf3_29 : decode cJ_StringLatin1_indexOf3 29 = .ok (.aload_n 0, 1) := by decide +kernel
theorem dJ_StringLatin1_indexOf3_30 : decode cJ_StringLatin1_indexOf3 30 = .ok (.iload_n 1, 1) := by decide +kernel
theorem dJ_StringLatin1_indexOf3_31 : decode cJ_StringLatin1_indexOf3 31 = .ok (.iload_n 2, 1) := by decide +kernel
theorem dJ_StringLatin1_indexOf3_32 : decode cJ_StringLatin1_indexOf3 32 = .ok (.iload_n 3, 1) := by decide +kernel
theorem dJ_StringLatin1_indexOf3_33 : decode cJ_StringLatin1_indexOf3 33 = .ok (.invokestatic 95, 3) := by decide +kernel
theorem dJ_StringLatin1_indexOf3_36 : decode cJ_StringLatin1_indexOf3 36 = .ok (.ireturn, 1) := by decide +kernel
theorem dJ_StringLatin1_canEncode_0 : decode cJ_StringLatin1_canEncode 0 = .ok (.iload_n 0, 1) := by decide +kernel
theorem dJ_StringLatin1_canEncode_1 : decode cJ_StringLatin1_canEncode 1 = .ok (.ifCond .lt 14, 3) := by decide +kernel
theorem dJ_StringLatin1_canEncode_4 : decode cJ_StringLatin1_canEncode 4 = .ok (.iload_n 0, 1) := by decide +kernel
theorem dJ_StringLatin1_canEncode_5 : decode cJ_StringLatin1_canEncode 5 = .ok (.sipush 255, 3) := by decide +kernel
theorem dJ_StringLatin1_canEncode_8 : decode cJ_StringLatin1_canEncode 8 = .ok (.if_icmp .gt 7, 3) := by decide +kernel
theorem dJ_StringLatin1_canEncode_11 : decode cJ_StringLatin1_canEncode 11 = .ok (.iconst 1, 1) := by decide +kernel
theorem dJ_StringLatin1_canEncode_12 : decode cJ_StringLatin1_canEncode 12 = .ok (.goto 4, 3) := by decide +kernel
theorem dJ_StringLatin1_canEncode_15 : decode cJ_StringLatin1_canEncode 15 = .ok (.iconst 0, 1) := by decide +kernel
theorem dJ_StringLatin1_canEncode_16 : decode cJ_StringLatin1_canEncode 16 = .ok (.ireturn, 1) := by decide +kernel
theorem dJ_StringLatin1_indexOfChar_0 : decode cJ_StringLatin1_indexOfChar 0 = .ok (.iload_n 1, 1) := by decide +kernel
theorem dJ_StringLatin1_indexOfChar_1 : decode cJ_StringLatin1_indexOfChar 1 = .ok (.i2b, 1) := by decide +kernel
theorem dJ_StringLatin1_indexOfChar_2 : decode cJ_StringLatin1_indexOfChar 2 = .ok (.istore 4, 2) := by decide +kernel
theorem dJ_StringLatin1_indexOfChar_4 : decode cJ_StringLatin1_indexOfChar 4 = .ok (.iload_n 2, 1) := by decide +kernel
theorem dJ_StringLatin1_indexOfChar_5 : decode cJ_StringLatin1_indexOfChar 5 = .ok (.istore 5, 2) := by decide +kernel
theorem dJ_StringLatin1_indexOfChar_7 : decode cJ_StringLatin1_indexOfChar 7 = .ok (.iload 5, 2) := by decide +kernel
theorem dJ_StringLatin1_indexOfChar_9 : decode cJ_StringLatin1_indexOfChar 9 = .ok (.iload_n 3, 1) := by decide +kernel
theorem dJ_StringLatin1_indexOfChar_10 : decode cJ_StringLatin1_indexOfChar 10 = .ok (.if_icmp .ge 21, 3) := by decide +kernel
theorem dJ_StringLatin1_indexOfChar_13 : decode cJ_StringLatin1_indexOfChar 13 = .ok (.aload_n 0, 1) := by decide +kernel
theorem dJ_StringLatin1_indexOfChar_14 : decode cJ_StringLatin1_indexOfChar 14 = .ok (.iload 5, 2) := by decide +kernel
theorem dJ_StringLatin1_indexOfChar_16 : decode cJ_StringLatin1_indexOfChar 16 = .ok (.baload, 1) := by decide +kernel
theorem dJ_StringLatin1_indexOfChar_17 : decode cJ_StringLatin1_indexOfChar 17 = .ok (.iload 4, 2) := by decide +kernel
theorem dJ_StringLatin1_indexOfChar_19 : decode cJ_StringLatin1_indexOfChar 19 = .ok (.if_icmp .ne 6, 3) := by decide +kernel
theorem dJ_StringLatin1_indexOfChar_22 : decode cJ_StringLatin1_indexOfChar 22 = .ok (.iload 5, 2) := by decide +kernel
theorem dJ_StringLatin1_indexOfChar_24 : decode cJ_StringLatin1_indexOfChar 24 = .ok (.ireturn, 1) := by decide +kernel
theorem dJ_StringLatin1_indexOfChar_25 : decode cJ_StringLatin1_indexOfChar 25 = .ok (.iinc 5 1, 3) := by decide +kernel
theorem dJ_StringLatin1_indexOfChar_28 : decode cJ_StringLatin1_indexOfChar 28 = .ok (.goto (-21), 3) := by decide +kernel
theorem dJ_StringLatin1_indexOfChar_31 : decode cJ_StringLatin1_indexOfChar 31 = .ok (.iconst (-1), 1) := by decide +kernel
theorem dJ_StringLatin1_indexOfChar_32 : decode cJ_StringLatin1_indexOfChar 32 = .ok (.ireturn, 1) := by decide +kernel
