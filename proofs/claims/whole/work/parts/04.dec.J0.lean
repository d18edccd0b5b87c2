theorem d_Ob_init_0 : decode b_Ob_init 0 = .ok (.return_, 1) := by decide +kernel
theorem d_St_indexOf1_0 : decode b_St_indexOf1 0 = .ok (.aload_n 0, 1) := by decide +kernel
theorem d_St_indexOf1_1 : decode b_St_indexOf1 1 = .ok (.iload_n 1, 1) := by decide +kernel
theorem d_St_indexOf1_2 : decode b_St_indexOf1 2 = .ok (.iconst 0, 1) := by decide +kernel
theorem d_St_indexOf1_3 : decode b_St_indexOf1 3 = .ok (.invokevirtual 633, 3) := by decide +kernel
theorem d_St_indexOf1_6 : decode b_St_indexOf1 6 = .ok (.ireturn, 1) := by decide +kernel
theorem d_St_indexOf2_0 : decode b_St_indexOf2 0 = .ok (.aload_n 0, 1) := by decide +kernel
theorem d_St_indexOf2_1 : decode b_St_indexOf2 1 = .ok (.invokevirtual 492, 3) := by decide +kernel
theorem d_St_indexOf2_4 : decode b_St_indexOf2 4 = .ok (.ifCond .eq 19, 3) := by decide +kernel
theorem d_St_indexOf2_7 : decode b_St_indexOf2 7 = .ok (.aload_n 0, 1) := by decide +kernel
theorem d_St_indexOf2_8 : decode b_St_indexOf2 8 = .ok (.getfield 9, 3) := by decide +kernel
theorem d_St_indexOf2_11 : decode b_St_indexOf2 11 = .ok (.iload_n 1, 1) := by decide +kernel
theorem d_St_indexOf2_12 : decode b_St_indexOf2 12 = .ok (.iload_n 2, 1) := by decide +kernel
theorem d_St_indexOf2_13 : decode b_St_indexOf2 13 = .ok (.aload_n 0, 1) := by decide +kernel
theorem d_St_indexOf2_14 : decode b_St_indexOf2 14 = .ok (.invokevirtual 505, 3) := by decide +kernel
theorem d_St_indexOf2_17 : decode b_St_indexOf2 17 = .ok (.invokestatic 637, 3) := by decide +kernel
theorem d_St_indexOf2_20 : decode b_St_indexOf2 20 = .ok (.goto 16, 3) := by decide +kernel
theorem d_St_indexOf2_23 : decode b_St_indexOf2 23 = .ok (.aload_n 0, 1) := by decide +kernel
theorem d_St_indexOf2_24 : decode b_St_indexOf2 24 = .ok (.getfield 9, 3) := by decide +kernel
theorem d_St_indexOf2_27 : decode b_St_indexOf2 27 = .ok (.iload_n 1, 1) := by decide +kernel
theorem d_St_indexOf2_28 : decode b_St_indexOf2 28 = .ok (.iload_n 2, 1) := by decide +kernel
theorem d_St_indexOf2_29 : decode b_St_indexOf2 29 = .ok (.aload_n 0, 1) := by decide +kernel
theorem d_St_indexOf2_30 : decode b_St_indexOf2 30 = .ok (.invokevirtual 505, 3) := by decide +kernel
theorem d_St_indexOf2_33 : decode b_St_indexOf2 33 = .ok (.invokestatic 640, 3) := by decide +kernel
theorem d_St_indexOf2_36 : decode b_St_indexOf2 36 = .ok (.ireturn, 1) := by decide +kernel
theorem d_St_isLatin1_0 : decode b_St_isLatin1 0 = .ok (.getstatic 38, 3) := by decide +kernel
theorem d_St_isLatin1_3 : decode b_St_isLatin1 3 = .ok (.ifCond .eq 14, 3) := by decide +kernel
theorem d_St_isLatin1_6 : decode b_St_isLatin1 6 = .ok (.aload_n 0, 1) := by decide +kernel
theorem d_St_isLatin1_7 : decode b_St_isLatin1 7 = .ok (.getfield 15, 3) := by decide +kernel
theorem d_St_isLatin1_10 : decode b_St_isLatin1 10 = .ok (.ifCond .ne 7, 3) := by decide +kernel
theorem d_St_isLatin1_13 : decode b_St_isLatin1 13 = .ok (.iconst 1, 1) := by decide +kernel
theorem d_St_isLatin1_14 : decode b_St_isLatin1 14 = .ok (.goto 4, 3) := by decide +kernel
theorem d_St_isLatin1_17 : decode b_St_isLatin1 17 = .ok (.iconst 0, 1) := by decide +kernel
theorem d_St_isLatin1_18 : decode b_St_isLatin1 18 = .ok (.ireturn, 1) := by decide +kernel
theorem d_St_length_0 : decode b_St_length 0 = .ok (.aload_n 0, 1) := by decide +kernel
theorem d_St_length_1 : decode b_St_length 1 = .ok (.getfield 9, 3) := by decide +kernel
theorem d_St_length_4 : decode b_St_length 4 = .ok (.arraylength, 1) := by decide +kernel
theorem d_St_length_5 : decode b_St_length 5 = .ok (.aload_n 0, 1) := by decide +kernel
theorem d_St_length_6 : decode b_St_length 6 = .ok (.invokevirtual 335, 3) := by decide +kernel
theorem d_St_length_9 : decode b_St_length 9 = .ok (.ishr, 1) := by decide +kernel
theorem d_St_length_10 : decode b_St_length 10 = .ok (.ireturn, 1) := by decide +kernel
theorem d_St_coder_0 : decode b_St_coder 0 = .ok (.getstatic 38, 3) := by decide +kernel
theorem d_St_coder_3 : decode b_St_coder 3 = .ok (.ifCond .eq 10, 3) := by decide +kernel
theorem d_St_coder_6 : decode b_St_coder 6 = .ok (.aload_n 0, 1) := by decide +kernel
theorem d_St_coder_7 : decode b_St_coder 7 = .ok (.getfield 15, 3) := by decide +kernel
theorem d_St_coder_10 : decode b_St_coder 10 = .ok (.goto 4, 3) := by decide +kernel
theorem d_St_coder_13 : decode b_St_coder 13 = .ok (.iconst 1, 1) := by decide +kernel
theorem d_St_coder_14 : decode b_St_coder 14 = .ok (.ireturn, 1) := by decide +kernel
theorem d_S1_indexOf_0 : decode b_S1_indexOf 0 = .ok (.iload_n 1, 1) := by decide +kernel
theorem d_S1_indexOf_1 : decode b_S1_indexOf 1 = .ok (.invokestatic 88, 3) := by decide +kernel
theorem d_S1_indexOf_4 : decode b_S1_indexOf 4 = .ok (.ifCond .ne 5, 3) := by decide +kernel
theorem d_S1_indexOf_7 : decode b_S1_indexOf 7 = .ok (.iconst (-1), 1) := by decide +kernel
theorem d_S1_indexOf_8 : decode b_S1_indexOf 8 = .ok (.ireturn, 1) := by decide +kernel
theorem d_S1_indexOf_9 : decode b_S1_indexOf 9 = .ok (.iload_n 2, 1) := by decide +kernel
theorem d_S1_indexOf_10 : decode b_S1_indexOf 10 = .ok (.iconst 0, 1) := by decide +kernel
theorem d_S1_indexOf_11 : decode b_S1_indexOf 11 = .ok (.invokestatic 92, 3) := by decide +kernel
theorem d_S1_indexOf_14 : decode b_S1_indexOf 14 = .ok (.istore_n 2, 1) := by decide +kernel
theorem d_S1_indexOf_15 : decode b_S1_indexOf 15 = .ok (.iload_n 3, 1) := by decide +kernel
theorem d_S1_indexOf_16 : decode b_S1_indexOf 16 = .ok (.aload_n 0, 1) := by decide +kernel
theorem d_S1_indexOf_17 : decode b_S1_indexOf 17 = .ok (.arraylength, 1) := by decide +kernel
theorem d_S1_indexOf_18 : decode b_S1_indexOf 18 = .ok (.invokestatic 38, 3) := by decide +kernel
theorem d_S1_indexOf_21 : decode b_S1_indexOf 21 = .ok (.istore_n 3, 1) := by decide +kernel
theorem d_S1_indexOf_22 : decode b_S1_indexOf 22 = .ok (.iload_n 2, 1) := by decide +kernel
theorem d_S1_indexOf_23 : decode b_S1_indexOf 23 = .ok (.iload_n 3, 1) := by decide +kernel
theorem d_S1_indexOf_24 : decode b_S1_indexOf 24 = .ok (.if_icmp .lt 5, 3) := by decide +kernel
theorem d_S1_indexOf_27 : decode b_S1_indexOf 27 = .ok (.iconst (-1), 1) := by decide +kernel
theorem d_S1_indexOf_28 : decode b_S1_indexOf 28 = .ok (.ireturn, 1) := by decide +kernel
theorem d_S1_indexOf_29 : decode b_S1_indexOf 29 = .ok (.aload_n 0, 1) := by decide +kernel
theorem d_S1_indexOf_30 : decode b_S1_indexOf 30 = .ok (.iload_n 1, 1) := by decide +kernel
theorem d_S1_indexOf_31 : decode b_S1_indexOf 31 = .ok (.iload_n 2, 1) := by decide +kernel
theorem d_S1_indexOf_32 : decode b_S1_indexOf 32 = .ok (.iload_n 3, 1) := by decide +kernel
theorem d_S1_indexOf_33 : decode b_S1_indexOf 33 = .ok (.invokestatic 95, 3) := by decide +kernel
theorem d_S1_indexOf_36 : decode b_S1_indexOf 36 = .ok (.ireturn, 1) := by decide +kernel
theorem d_S1_canEncode_0 : decode b_S1_canEncode 0 = .ok (.iload_n 0, 1) := by decide +kernel
theorem d_S1_canEncode_1 : decode b_S1_canEncode 1 = .ok (.ifCond .lt 14, 3) := by decide +kernel
theorem d_S1_canEncode_4 : decode b_S1_canEncode 4 = .ok (.iload_n 0, 1) := by decide +kernel
theorem d_S1_canEncode_5 : decode b_S1_canEncode 5 = .ok (.sipush 255, 3) := by decide +kernel
theorem d_S1_canEncode_8 : decode b_S1_canEncode 8 = .ok (.if_icmp .gt 7, 3) := by decide +kernel
theorem d_S1_canEncode_11 : decode b_S1_canEncode 11 = .ok (.iconst 1, 1) := by decide +kernel
theorem d_S1_canEncode_12 : decode b_S1_canEncode 12 = .ok (.goto 4, 3) := by decide +kernel
theorem d_S1_canEncode_15 : decode b_S1_canEncode 15 = .ok (.iconst 0, 1) := by decide +kernel
theorem d_S1_canEncode_16 : decode b_S1_canEncode 16 = .ok (.ireturn, 1) := by decide +kernel
theorem d_Ma_max_0 : decode b_Ma_max 0 = .ok (.iload_n 0, 1) := by decide +kernel
theorem d_Ma_max_1 : decode b_Ma_max 1 = .ok (.iload_n 1, 1) := by decide +kernel
theorem d_Ma_max_2 : decode b_Ma_max 2 = .ok (.if_icmp .lt 7, 3) := by decide +kernel
theorem d_Ma_max_5 : decode b_Ma_max 5 = .ok (.iload_n 0, 1) := by decide +kernel
theorem d_Ma_max_6 : decode b_Ma_max 6 = .ok (.goto 4, 3) := by decide +kernel
theorem d_Ma_max_9 : decode b_Ma_max 9 = .ok (.iload_n 1, 1) := by decide +kernel
theorem d_Ma_max_10 : decode b_Ma_max 10 = .ok (.ireturn, 1) := by decide +kernel
theorem d_Ma_min_0 : decode b_Ma_min 0 = .ok (.iload_n 0, 1) := by decide +kernel
theorem d_Ma_min_1 : decode b_Ma_min 1 = .ok (.iload_n 1, 1) := by decide +kernel
theorem d_Ma_min_2 : decode b_Ma_min 2 = .ok (.if_icmp .gt 7, 3) := by decide +kernel
theorem d_Ma_min_5 : decode b_Ma_min 5 = .ok (.iload_n 0, 1) := by decide +kernel
theorem d_Ma_min_6 : decode b_Ma_min 6 = .ok (.goto 4, 3) := by decide +kernel
theorem d_Ma_min_9 : decode b_Ma_min 9 = .ok (.iload_n 1, 1) := by decide +kernel
theorem d_Ma_min_10 : decode b_Ma_min 10 = .ok (.ireturn, 1) := by decide +kernel
theorem d_S1_indexOfChar_0 : decode b_S1_indexOfChar 0 = .ok (.iload_n 1, 1) := by decide +kernel
theorem d_S1_indexOfChar_1 : decode b_S1_indexOfChar 1 = .ok (.i2b, 1) := by decide +kernel
theorem d_S1_indexOfChar_2 : decode b_S1_indexOfChar 2 = .ok (.istore 4, 2) := by decide +kernel
theorem d_S1_indexOfChar_4 : decode b_S1_indexOfChar 4 = .ok (.iload_n 2, 1) := by decide +kernel
theorem d_S1_indexOfChar_5 : decode b_S1_indexOfChar 5 = .ok (.istore 5, 2) := by decide +kernel
theorem d_S1_indexOfChar_7 : decode b_S1_indexOfChar 7 = .ok (.iload 5, 2) := by decide +kernel
theorem d_S1_indexOfChar_9 : decode b_S1_indexOfChar 9 = .ok (.iload_n 3, 1) := by decide +kernel
theorem d_S1_indexOfChar_10 : decode b_S1_indexOfChar 10 = .ok (.if_icmp .ge 21, 3) := by decide +kernel
theorem d_S1_indexOfChar_13 : decode b_S1_indexOfChar 13 = .ok (.aload_n 0, 1) := by decide +kernel
theorem d_S1_indexOfChar_14 : decode b_S1_indexOfChar 14 = .ok (.iload 5, 2) := by decide +kernel
theorem d_S1_indexOfChar_16 : decode b_S1_indexOfChar 16 = .ok (.baload, 1) := by decide +kernel
theorem d_S1_indexOfChar_17 : decode b_S1_indexOfChar 17 = .ok (.iload 4, 2) := by decide +kernel
theorem d_S1_indexOfChar_19 : decode b_S1_indexOfChar 19 = .ok (.if_icmp .ne 6, 3) := by decide +kernel
theorem d_S1_indexOfChar_22 : decode b_S1_indexOfChar 22 = .ok (.iload 5, 2) := by decide +kernel
theorem d_S1_indexOfChar_24 : decode b_S1_indexOfChar 24 = .ok (.ireturn, 1) := by decide +kernel
theorem d_S1_indexOfChar_25 : decode b_S1_indexOfChar 25 = .ok (.iinc 5 1, 3) := by decide +kernel
theorem d_S1_indexOfChar_28 : decode b_S1_indexOfChar 28 = .ok (.goto (-21), 3) := by decide +kernel
theorem d_S1_indexOfChar_31 : decode b_S1_indexOfChar 31 = .ok (.iconst (-1), 1) := by decide +kernel
theorem d_S1_indexOfChar_32 : decode b_S1_indexOfChar 32 = .ok (.ireturn, 1) := by decide +kernel
theorem d_S6_indexOf_0 : decode b_S6_indexOf 0 = .ok (.iload_n 2, 1) := by decide +kernel
theorem d_S6_indexOf_1 : decode b_S6_indexOf 1 = .ok (.iconst 0, 1) := by decide +kernel
theorem d_S6_indexOf_2 : decode b_S6_indexOf 2 = .ok (.invokestatic 224, 3) := by decide +kernel
theorem d_S6_indexOf_5 : decode b_S6_indexOf 5 = .ok (.istore_n 2, 1) := by decide +kernel
theorem d_S6_indexOf_6 : decode b_S6_indexOf 6 = .ok (.iload_n 3, 1) := by decide +kernel
theorem d_S6_indexOf_7 : decode b_S6_indexOf 7 = .ok (.aload_n 0, 1) := by decide +kernel
theorem d_S6_indexOf_8 : decode b_S6_indexOf 8 = .ok (.arraylength, 1) := by decide +kernel
theorem d_S6_indexOf_9 : decode b_S6_indexOf 9 = .ok (.iconst 1, 1) := by decide +kernel
theorem d_S6_indexOf_10 : decode b_S6_indexOf 10 = .ok (.ishr, 1) := by decide +kernel
theorem d_S6_indexOf_11 : decode b_S6_indexOf 11 = .ok (.invokestatic 183, 3) := by decide +kernel
theorem d_S6_indexOf_14 : decode b_S6_indexOf 14 = .ok (.istore_n 3, 1) := by decide +kernel
theorem d_S6_indexOf_15 : decode b_S6_indexOf 15 = .ok (.iload_n 2, 1) := by decide +kernel
theorem d_S6_indexOf_16 : decode b_S6_indexOf 16 = .ok (.iload_n 3, 1) := by decide +kernel
theorem d_S6_indexOf_17 : decode b_S6_indexOf 17 = .ok (.if_icmp .lt 5, 3) := by decide +kernel
theorem d_S6_indexOf_20 : decode b_S6_indexOf 20 = .ok (.iconst (-1), 1) := by decide +kernel
theorem d_S6_indexOf_21 : decode b_S6_indexOf 21 = .ok (.ireturn, 1) := by decide +kernel
theorem d_S6_indexOf_22 : decode b_S6_indexOf 22 = .ok (.iload_n 1, 1) := by decide +kernel
theorem d_S6_indexOf_23 : decode b_S6_indexOf 23 = .ok (.ldc 227, 2) := by decide +kernel
theorem d_S6_indexOf_25 : decode b_S6_indexOf 25 = .ok (.if_icmp .ge 11, 3) := by decide +kernel
theorem d_S6_indexOf_28 : decode b_S6_indexOf 28 = .ok (.aload_n 0, 1) := by decide +kernel
theorem d_S6_indexOf_29 : decode b_S6_indexOf 29 = .ok (.iload_n 1, 1) := by decide +kernel
theorem d_S6_indexOf_30 : decode b_S6_indexOf 30 = .ok (.iload_n 2, 1) := by decide +kernel
theorem d_S6_indexOf_31 : decode b_S6_indexOf 31 = .ok (.iload_n 3, 1) := by decide +kernel
theorem d_S6_indexOf_32 : decode b_S6_indexOf 32 = .ok (.invokestatic 228, 3) := by decide +kernel
theorem d_S6_indexOf_35 : decode b_S6_indexOf 35 = .ok (.ireturn, 1) := by decide +kernel
theorem d_S6_indexOf_36 : decode b_S6_indexOf 36 = .ok (.aload_n 0, 1) := by decide +kernel
theorem d_S6_indexOf_37 : decode b_S6_indexOf 37 = .ok (.iload_n 1, 1) := by decide +kernel
theorem d_S6_indexOf_38 : decode b_S6_indexOf 38 = .ok (.iload_n 2, 1) := by decide +kernel
theorem d_S6_indexOf_39 : decode b_S6_indexOf 39 = .ok (.iload_n 3, 1) := by decide +kernel
theorem d_S6_indexOf_40 : decode b_S6_indexOf 40 = .ok (.invokestatic 232, 3) := by decide +kernel
theorem d_S6_indexOf_43 : decode b_S6_indexOf 43 = .ok (.ireturn, 1) := by decide +kernel
theorem d_S6_indexOfChar_0 : decode b_S6_indexOfChar 0 = .ok (.iload_n 2, 1) := by decide +kernel
theorem d_S6_indexOfChar_1 : decode b_S6_indexOfChar 1 = .ok (.iload_n 3, 1) := by decide +kernel
theorem d_S6_indexOfChar_2 : decode b_S6_indexOfChar 2 = .ok (.aload_n 0, 1) := by decide +kernel
theorem d_S6_indexOfChar_3 : decode b_S6_indexOfChar 3 = .ok (.invokestatic 96, 3) := by decide +kernel
theorem d_S6_indexOfChar_6 : decode b_S6_indexOfChar 6 = .ok (.aload_n 0, 1) := by decide +kernel
theorem d_S6_indexOfChar_7 : decode b_S6_indexOfChar 7 = .ok (.iload_n 1, 1) := by decide +kernel
theorem d_S6_indexOfChar_8 : decode b_S6_indexOfChar 8 = .ok (.iload_n 2, 1) := by decide +kernel
theorem d_S6_indexOfChar_9 : decode b_S6_indexOfChar 9 = .ok (.iload_n 3, 1) := by decide +kernel
theorem d_S6_indexOfChar_10 : decode b_S6_indexOfChar 10 = .ok (.invokestatic 244, 3) := by decide +kernel
theorem d_S6_indexOfChar_13 : decode b_S6_indexOfChar 13 = .ok (.ireturn, 1) := by decide +kernel
theorem d_S6_checkBoundsBeginEnd_0 : decode b_S6_checkBoundsBeginEnd 0 = .ok (.iload_n 0, 1) := by decide +kernel
theorem d_S6_checkBoundsBeginEnd_1 : decode b_S6_checkBoundsBeginEnd 1 = .ok (.iload_n 1, 1) := by decide +kernel
theorem d_S6_checkBoundsBeginEnd_2 : decode b_S6_checkBoundsBeginEnd 2 = .ok (.aload_n 2, 1) := by decide +kernel
theorem d_S6_checkBoundsBeginEnd_3 : decode b_S6_checkBoundsBeginEnd 3 = .ok (.invokestatic 48, 3) := by decide +kernel
theorem d_S6_checkBoundsBeginEnd_6 : decode b_S6_checkBoundsBeginEnd 6 = .ok (.invokestatic 241, 3) := by decide +kernel
theorem d_S6_checkBoundsBeginEnd_9 : decode b_S6_checkBoundsBeginEnd 9 = .ok (.return_, 1) := by decide +kernel
theorem d_S6_length_0 : decode b_S6_length 0 = .ok (.aload_n 0, 1) := by decide +kernel
theorem d_S6_length_1 : decode b_S6_length 1 = .ok (.arraylength, 1) := by decide +kernel
theorem d_S6_length_2 : decode b_S6_length 2 = .ok (.iconst 1, 1) := by decide +kernel
theorem d_S6_length_3 : decode b_S6_length 3 = .ok (.ishr, 1) := by decide +kernel
theorem d_S6_length_4 : decode b_S6_length 4 = .ok (.ireturn, 1) := by decide +kernel
theorem d_St_checkBoundsBeginEnd_0 : decode b_St_checkBoundsBeginEnd 0 = .ok (.iload_n 0, 1) := by decide +kernel
theorem d_St_checkBoundsBeginEnd_1 : decode b_St_checkBoundsBeginEnd 1 = .ok (.iload_n 1, 1) := by decide +kernel
theorem d_St_checkBoundsBeginEnd_2 : decode b_St_checkBoundsBeginEnd 2 = .ok (.iload_n 2, 1) := by decide +kernel
theorem d_St_checkBoundsBeginEnd_3 : decode b_St_checkBoundsBeginEnd 3 = .ok (.getstatic 1053, 3) := by decide +kernel
theorem d_St_checkBoundsBeginEnd_6 : decode b_St_checkBoundsBeginEnd 6 = .ok (.invokestatic 1062, 3) := by decide +kernel
theorem d_St_checkBoundsBeginEnd_9 : decode b_St_checkBoundsBeginEnd 9 = .ok (.pop, 1) := by decide +kernel
theorem d_St_checkBoundsBeginEnd_10 : decode b_St_checkBoundsBeginEnd 10 = .ok (.return_, 1) := by decide +kernel
theorem d_Pr_checkFromToIndex_0 : decode b_Pr_checkFromToIndex 0 = .ok (.iload_n 0, 1) := by decide +kernel
theorem d_Pr_checkFromToIndex_1 : decode b_Pr_checkFromToIndex 1 = .ok (.ifCond .lt 13, 3) := by decide +kernel
theorem d_Pr_checkFromToIndex_4 : decode b_Pr_checkFromToIndex 4 = .ok (.iload_n 0, 1) := by decide +kernel
theorem d_Pr_checkFromToIndex_5 : decode b_Pr_checkFromToIndex 5 = .ok (.iload_n 1, 1) := by decide +kernel
theorem d_Pr_checkFromToIndex_6 : decode b_Pr_checkFromToIndex 6 = .ok (.if_icmp .gt 8, 3) := by decide +kernel
theorem d_Pr_checkFromToIndex_9 : decode b_Pr_checkFromToIndex 9 = .ok (.iload_n 1, 1) := by decide +kernel
theorem d_Pr_checkFromToIndex_10 : decode b_Pr_checkFromToIndex 10 = .ok (.iload_n 2, 1) := by decide +kernel
theorem d_Pr_checkFromToIndex_11 : decode b_Pr_checkFromToIndex 11 = .ok (.if_icmp .le 11, 3) := by decide +kernel
theorem d_Pr_checkFromToIndex_14 : decode b_Pr_checkFromToIndex 14 = .ok (.aload_n 3, 1) := by decide +kernel
theorem d_Pr_checkFromToIndex_15 : decode b_Pr_checkFromToIndex 15 = .ok (.iload_n 0, 1) := by decide +kernel
theorem d_Pr_checkFromToIndex_16 : decode b_Pr_checkFromToIndex 16 = .ok (.iload_n 1, 1) := by decide +kernel
theorem d_Pr_checkFromToIndex_17 : decode b_Pr_checkFromToIndex 17 = .ok (.iload_n 2, 1) := by decide +kernel
theorem d_Pr_checkFromToIndex_18 : decode b_Pr_checkFromToIndex 18 = .ok (.invokestatic 99, 3) := by decide +kernel
theorem d_Pr_checkFromToIndex_21 : decode b_Pr_checkFromToIndex 21 = .ok (.athrow, 1) := by decide +kernel
theorem d_Pr_checkFromToIndex_22 : decode b_Pr_checkFromToIndex 22 = .ok (.iload_n 0, 1) := by decide +kernel
theorem d_Pr_checkFromToIndex_23 : decode b_Pr_checkFromToIndex 23 = .ok (.ireturn, 1) := by decide +kernel
theorem d_S6_indexOfCharUnsafe_0 : decode b_S6_indexOfCharUnsafe 0 = .ok (.iload_n 2, 1) := by decide +kernel
theorem d_S6_indexOfCharUnsafe_1 : decode b_S6_indexOfCharUnsafe 1 = .ok (.istore 4, 2) := by decide +kernel
theorem d_S6_indexOfCharUnsafe_3 : decode b_S6_indexOfCharUnsafe 3 = .ok (.iload 4, 2) := by decide +kernel
theorem d_S6_indexOfCharUnsafe_5 : decode b_S6_indexOfCharUnsafe 5 = .ok (.iload_n 3, 1) := by decide +kernel
theorem d_S6_indexOfCharUnsafe_6 : decode b_S6_indexOfCharUnsafe 6 = .ok (.if_icmp .ge 22, 3) := by decide +kernel
theorem d_S6_indexOfCharUnsafe_9 : decode b_S6_indexOfCharUnsafe 9 = .ok (.aload_n 0, 1) := by decide +kernel
theorem d_S6_indexOfCharUnsafe_10 : decode b_S6_indexOfCharUnsafe 10 = .ok (.iload 4, 2) := by decide +kernel
theorem d_S6_indexOfCharUnsafe_12 : decode b_S6_indexOfCharUnsafe 12 = .ok (.invokestatic 71, 3) := by decide +kernel
theorem d_S6_indexOfCharUnsafe_15 : decode b_S6_indexOfCharUnsafe 15 = .ok (.iload_n 1, 1) := by decide +kernel
theorem d_S6_indexOfCharUnsafe_16 : decode b_S6_indexOfCharUnsafe 16 = .ok (.if_icmp .ne 6, 3) := by decide +kernel
theorem d_S6_indexOfCharUnsafe_19 : decode b_S6_indexOfCharUnsafe 19 = .ok (.iload 4, 2) := by decide +kernel
theorem d_S6_indexOfCharUnsafe_21 : decode b_S6_indexOfCharUnsafe 21 = .ok (.ireturn, 1) := by decide +kernel
theorem d_S6_indexOfCharUnsafe_22 : decode b_S6_indexOfCharUnsafe 22 = .ok (.iinc 4 1, 3) := by decide +kernel
theorem d_S6_indexOfCharUnsafe_25 : decode b_S6_indexOfCharUnsafe 25 = .ok (.goto (-22), 3) := by decide +kernel
theorem d_S6_indexOfCharUnsafe_28 : decode b_S6_indexOfCharUnsafe 28 = .ok (.iconst (-1), 1) := by decide +kernel
theorem d_S6_indexOfCharUnsafe_29 : decode b_S6_indexOfCharUnsafe 29 = .ok (.ireturn, 1) := by decide +kernel
theorem d_S6_getChar_0 : decode b_S6_getChar 0 = .ok (.getstatic 44, 3) := by decide +kernel
theorem d_S6_getChar_3 : decode b_S6_getChar 3 = .ok (.ifCond .ne 25, 3) := by decide +kernel
theorem d_S6_getChar_6 : decode b_S6_getChar 6 = .ok (.iload_n 1, 1) := by decide +kernel
theorem d_S6_getChar_7 : decode b_S6_getChar 7 = .ok (.ifCond .lt 11, 3) := by decide +kernel
theorem d_S6_getChar_10 : decode b_S6_getChar 10 = .ok (.iload_n 1, 1) := by decide +kernel
theorem d_S6_getChar_11 : decode b_S6_getChar 11 = .ok (.aload_n 0, 1) := by decide +kernel
theorem d_S6_getChar_12 : decode b_S6_getChar 12 = .ok (.invokestatic 48, 3) := by decide +kernel
theorem d_S6_getChar_15 : decode b_S6_getChar 15 = .ok (.if_icmp .lt 13, 3) := by decide +kernel
theorem d_S6_getChar_18 : decode b_S6_getChar 18 = .ok (.new 52, 3) := by decide +kernel
theorem d_S6_getChar_21 : decode b_S6_getChar 21 = .ok (.dup, 1) := by decide +kernel
theorem d_S6_getChar_22 : decode b_S6_getChar 22 = .ok (.ldc 54, 2) := by decide +kernel
theorem d_S6_getChar_24 : decode b_S6_getChar 24 = .ok (.invokespecial 56, 3) := by decide +kernel
theorem d_S6_getChar_27 : decode b_S6_getChar 27 = .ok (.athrow, 1) := by decide +kernel
theorem d_S6_getChar_28 : decode b_S6_getChar 28 = .ok (.iload_n 1, 1) := by decide +kernel
theorem d_S6_getChar_29 : decode b_S6_getChar 29 = .ok (.iconst 1, 1) := by decide +kernel
theorem d_S6_getChar_30 : decode b_S6_getChar 30 = .ok (.ishl, 1) := by decide +kernel
theorem d_S6_getChar_31 : decode b_S6_getChar 31 = .ok (.istore_n 1, 1) := by decide +kernel
theorem d_S6_getChar_32 : decode b_S6_getChar 32 = .ok (.aload_n 0, 1) := by decide +kernel
theorem d_S6_getChar_33 : decode b_S6_getChar 33 = .ok (.iload_n 1, 1) := by decide +kernel
theorem d_S6_getChar_34 : decode b_S6_getChar 34 = .ok (.iinc 1 1, 3) := by decide +kernel
theorem d_S6_getChar_37 : decode b_S6_getChar 37 = .ok (.baload, 1) := by decide +kernel
theorem d_S6_getChar_38 : decode b_S6_getChar 38 = .ok (.sipush 255, 3) := by decide +kernel
theorem d_S6_getChar_41 : decode b_S6_getChar 41 = .ok (.iand, 1) := by decide +kernel
theorem d_S6_getChar_42 : decode b_S6_getChar 42 = .ok (.getstatic 59, 3) := by decide +kernel
theorem d_S6_getChar_45 : decode b_S6_getChar 45 = .ok (.ishl, 1) := by decide +kernel
theorem d_S6_getChar_46 : decode b_S6_getChar 46 = .ok (.aload_n 0, 1) := by decide +kernel
theorem d_S6_getChar_47 : decode b_S6_getChar 47 = .ok (.iload_n 1, 1) := by decide +kernel
theorem d_S6_getChar_48 : decode b_S6_getChar 48 = .ok (.baload, 1) := by decide +kernel
theorem d_S6_getChar_49 : decode b_S6_getChar 49 = .ok (.sipush 255, 3) := by decide +kernel
theorem d_S6_getChar_52 : decode b_S6_getChar 52 = .ok (.iand, 1) := by decide +kernel
theorem d_S6_getChar_53 : decode b_S6_getChar 53 = .ok (.getstatic 63, 3) := by decide +kernel
theorem d_S6_getChar_56 : decode b_S6_getChar 56 = .ok (.ishl, 1) := by decide +kernel
theorem d_S6_getChar_57 : decode b_S6_getChar 57 = .ok (.ior, 1) := by decide +kernel
theorem d_S6_getChar_58 : decode b_S6_getChar 58 = .ok (.i2c, 1) := by decide +kernel
theorem d_S6_getChar_59 : decode b_S6_getChar 59 = .ok (.ireturn, 1) := by decide +kernel
theorem d_S6_indexOfSupplementary_0 : decode b_S6_indexOfSupplementary 0 = .ok (.iload_n 1, 1) := by decide +kernel
theorem d_S6_indexOfSupplementary_1 : decode b_S6_indexOfSupplementary 1 = .ok (.invokestatic 164, 3) := by decide +kernel
theorem d_S6_indexOfSupplementary_4 : decode b_S6_indexOfSupplementary 4 = .ok (.ifCond .eq 65, 3) := by decide +kernel
theorem d_S6_indexOfSupplementary_7 : decode b_S6_indexOfSupplementary 7 = .ok (.iload_n 1, 1) := by decide +kernel
theorem d_S6_indexOfSupplementary_8 : decode b_S6_indexOfSupplementary 8 = .ok (.invokestatic 157, 3) := by decide +kernel
theorem d_S6_indexOfSupplementary_11 : decode b_S6_indexOfSupplementary 11 = .ok (.istore 4, 2) := by decide +kernel
theorem d_S6_indexOfSupplementary_13 : decode b_S6_indexOfSupplementary 13 = .ok (.iload_n 1, 1) := by decide +kernel
theorem d_S6_indexOfSupplementary_14 : decode b_S6_indexOfSupplementary 14 = .ok (.invokestatic 161, 3) := by decide +kernel
theorem d_S6_indexOfSupplementary_17 : decode b_S6_indexOfSupplementary 17 = .ok (.istore 5, 2) := by decide +kernel
theorem d_S6_indexOfSupplementary_19 : decode b_S6_indexOfSupplementary 19 = .ok (.iload_n 2, 1) := by decide +kernel
theorem d_S6_indexOfSupplementary_20 : decode b_S6_indexOfSupplementary 20 = .ok (.iload_n 3, 1) := by decide +kernel
theorem d_S6_indexOfSupplementary_21 : decode b_S6_indexOfSupplementary 21 = .ok (.aload_n 0, 1) := by decide +kernel
theorem d_S6_indexOfSupplementary_22 : decode b_S6_indexOfSupplementary 22 = .ok (.invokestatic 96, 3) := by decide +kernel
theorem d_S6_indexOfSupplementary_25 : decode b_S6_indexOfSupplementary 25 = .ok (.iload_n 2, 1) := by decide +kernel
theorem d_S6_indexOfSupplementary_26 : decode b_S6_indexOfSupplementary 26 = .ok (.istore 6, 2) := by decide +kernel
theorem d_S6_indexOfSupplementary_28 : decode b_S6_indexOfSupplementary 28 = .ok (.iload 6, 2) := by decide +kernel
theorem d_S6_indexOfSupplementary_30 : decode b_S6_indexOfSupplementary 30 = .ok (.iload_n 3, 1) := by decide +kernel
theorem d_S6_indexOfSupplementary_31 : decode b_S6_indexOfSupplementary 31 = .ok (.iconst 1, 1) := by decide +kernel
theorem d_S6_indexOfSupplementary_32 : decode b_S6_indexOfSupplementary 32 = .ok (.isub, 1) := by decide +kernel
theorem d_S6_indexOfSupplementary_33 : decode b_S6_indexOfSupplementary 33 = .ok (.if_icmp .ge 36, 3) := by decide +kernel
theorem d_S6_indexOfSupplementary_36 : decode b_S6_indexOfSupplementary 36 = .ok (.aload_n 0, 1) := by decide +kernel
theorem d_S6_indexOfSupplementary_37 : decode b_S6_indexOfSupplementary 37 = .ok (.iload 6, 2) := by decide +kernel
theorem d_S6_indexOfSupplementary_39 : decode b_S6_indexOfSupplementary 39 = .ok (.invokestatic 71, 3) := by decide +kernel
theorem d_S6_indexOfSupplementary_42 : decode b_S6_indexOfSupplementary 42 = .ok (.iload 4, 2) := by decide +kernel
theorem d_S6_indexOfSupplementary_44 : decode b_S6_indexOfSupplementary 44 = .ok (.if_icmp .ne 19, 3) := by decide +kernel
theorem d_S6_indexOfSupplementary_47 : decode b_S6_indexOfSupplementary 47 = .ok (.aload_n 0, 1) := by decide +kernel
theorem d_S6_indexOfSupplementary_48 : decode b_S6_indexOfSupplementary 48 = .ok (.iload 6, 2) := by decide +kernel
theorem d_S6_indexOfSupplementary_50 : decode b_S6_indexOfSupplementary 50 = .ok (.iconst 1, 1) := by decide +kernel
theorem d_S6_indexOfSupplementary_51 : decode b_S6_indexOfSupplementary 51 = .ok (.iadd, 1) := by decide +kernel
theorem d_S6_indexOfSupplementary_52 : decode b_S6_indexOfSupplementary 52 = .ok (.invokestatic 71, 3) := by decide +kernel
theorem d_S6_indexOfSupplementary_55 : decode b_S6_indexOfSupplementary 55 = .ok (.iload 5, 2) := by decide +kernel
theorem d_S6_indexOfSupplementary_57 : decode b_S6_indexOfSupplementary 57 = .ok (.if_icmp .ne 6, 3) := by decide +kernel
theorem d_S6_indexOfSupplementary_60 : decode b_S6_indexOfSupplementary 60 = .ok (.iload 6, 2) := by decide +kernel
theorem d_S6_indexOfSupplementary_62 : decode b_S6_indexOfSupplementary 62 = .ok (.ireturn, 1) := by decide +kernel
theorem d_S6_indexOfSupplementary_63 : decode b_S6_indexOfSupplementary 63 = .ok (.iinc 6 1, 3) := by decide +kernel
theorem d_S6_indexOfSupplementary_66 : decode b_S6_indexOfSupplementary 66 = .ok (.goto (-38), 3) := by decide +kernel
theorem d_S6_indexOfSupplementary_69 : decode b_S6_indexOfSupplementary 69 = .ok (.iconst (-1), 1) := by decide +kernel
theorem d_S6_indexOfSupplementary_70 : decode b_S6_indexOfSupplementary 70 = .ok (.ireturn, 1) := by decide +kernel
theorem d_Ch_isValidCodePoint_0 : decode b_Ch_isValidCodePoint 0 = .ok (.iload_n 0, 1) := by decide +kernel
theorem d_Ch_isValidCodePoint_1 : decode b_Ch_isValidCodePoint 1 = .ok (.bipush 16, 2) := by decide +kernel
theorem d_Ch_isValidCodePoint_3 : decode b_Ch_isValidCodePoint 3 = .ok (.iushr, 1) := by decide +kernel
theorem d_Ch_isValidCodePoint_4 : decode b_Ch_isValidCodePoint 4 = .ok (.istore_n 1, 1) := by decide +kernel
theorem d_Ch_isValidCodePoint_5 : decode b_Ch_isValidCodePoint 5 = .ok (.iload_n 1, 1) := by decide +kernel
theorem d_Ch_isValidCodePoint_6 : decode b_Ch_isValidCodePoint 6 = .ok (.bipush 17, 2) := by decide +kernel
theorem d_Ch_isValidCodePoint_8 : decode b_Ch_isValidCodePoint 8 = .ok (.if_icmp .ge 7, 3) := by decide +kernel
theorem d_Ch_isValidCodePoint_11 : decode b_Ch_isValidCodePoint 11 = .ok (.iconst 1, 1) := by decide +kernel
theorem d_Ch_isValidCodePoint_12 : decode b_Ch_isValidCodePoint 12 = .ok (.goto 4, 3) := by decide +kernel
theorem d_Ch_isValidCodePoint_15 : decode b_Ch_isValidCodePoint 15 = .ok (.iconst 0, 1) := by decide +kernel
theorem d_Ch_isValidCodePoint_16 : decode b_Ch_isValidCodePoint 16 = .ok (.ireturn, 1) := by decide +kernel
theorem d_Ch_highSurrogate_0 : decode b_Ch_highSurrogate 0 = .ok (.iload_n 0, 1) := by decide +kernel
theorem d_Ch_highSurrogate_1 : decode b_Ch_highSurrogate 1 = .ok (.bipush 10, 2) := by decide +kernel
theorem d_Ch_highSurrogate_3 : decode b_Ch_highSurrogate 3 = .ok (.iushr, 1) := by decide +kernel
theorem d_Ch_highSurrogate_4 : decode b_Ch_highSurrogate 4 = .ok (.ldc 110, 2) := by decide +kernel
theorem d_Ch_highSurrogate_6 : decode b_Ch_highSurrogate 6 = .ok (.iadd, 1) := by decide +kernel
theorem d_Ch_highSurrogate_7 : decode b_Ch_highSurrogate 7 = .ok (.i2c, 1) := by decide +kernel
theorem d_Ch_highSurrogate_8 : decode b_Ch_highSurrogate 8 = .ok (.ireturn, 1) := by decide +kernel
theorem d_Ch_lowSurrogate_0 : decode b_Ch_lowSurrogate 0 = .ok (.iload_n 0, 1) := by decide +kernel
theorem d_Ch_lowSurrogate_1 : decode b_Ch_lowSurrogate 1 = .ok (.sipush 1023, 3) := by decide +kernel
theorem d_Ch_lowSurrogate_4 : decode b_Ch_lowSurrogate 4 = .ok (.iand, 1) := by decide +kernel
theorem d_Ch_lowSurrogate_5 : decode b_Ch_lowSurrogate 5 = .ok (.ldc 76, 2) := by decide +kernel
theorem d_Ch_lowSurrogate_7 : decode b_Ch_lowSurrogate 7 = .ok (.iadd, 1) := by decide +kernel
theorem d_Ch_lowSurrogate_8 : decode b_Ch_lowSurrogate 8 = .ok (.i2c, 1) := by decide +kernel
theorem d_Ch_lowSurrogate_9 : decode b_Ch_lowSurrogate 9 = .ok (.ireturn, 1) := by decide +kernel
theorem d_St_charAt_0 : decode b_St_charAt 0 = .ok (.aload_n 0, 1) := by decide +kernel
theorem d_St_charAt_1 : decode b_St_charAt 1 = .ok (.invokevirtual 492, 3) := by decide +kernel
theorem d_St_charAt_4 : decode b_St_charAt 4 = .ok (.ifCond .eq 12, 3) := by decide +kernel
theorem d_St_charAt_7 : decode b_St_charAt 7 = .ok (.aload_n 0, 1) := by decide +kernel
theorem d_St_charAt_8 : decode b_St_charAt 8 = .ok (.getfield 9, 3) := by decide +kernel
theorem d_St_charAt_11 : decode b_St_charAt 11 = .ok (.iload_n 1, 1) := by decide +kernel
theorem d_St_charAt_12 : decode b_St_charAt 12 = .ok (.invokestatic 495, 3) := by decide +kernel
theorem d_St_charAt_15 : decode b_St_charAt 15 = .ok (.ireturn, 1) := by decide +kernel
theorem d_St_charAt_16 : decode b_St_charAt 16 = .ok (.aload_n 0, 1) := by decide +kernel
theorem d_St_charAt_17 : decode b_St_charAt 17 = .ok (.getfield 9, 3) := by decide +kernel
theorem d_St_charAt_20 : decode b_St_charAt 20 = .ok (.iload_n 1, 1) := by decide +kernel
theorem d_St_charAt_21 : decode b_St_charAt 21 = .ok (.invokestatic 498, 3) := by decide +kernel
theorem d_St_charAt_24 : decode b_St_charAt 24 = .ok (.ireturn, 1) := by decide +kernel
theorem d_S1_charAt_0 : decode b_S1_charAt 0 = .ok (.iload_n 1, 1) := by decide +kernel
theorem d_S1_charAt_1 : decode b_S1_charAt 1 = .ok (.aload_n 0, 1) := by decide +kernel
theorem d_S1_charAt_2 : decode b_S1_charAt 2 = .ok (.arraylength, 1) := by decide +kernel
theorem d_S1_charAt_3 : decode b_S1_charAt 3 = .ok (.invokestatic 9, 3) := by decide +kernel
theorem d_S1_charAt_6 : decode b_S1_charAt 6 = .ok (.aload_n 0, 1) := by decide +kernel
theorem d_S1_charAt_7 : decode b_S1_charAt 7 = .ok (.iload_n 1, 1) := by decide +kernel
theorem d_S1_charAt_8 : decode b_S1_charAt 8 = .ok (.baload, 1) := by decide +kernel
theorem d_S1_charAt_9 : decode b_S1_charAt 9 = .ok (.sipush 255, 3) := by decide +kernel
theorem d_S1_charAt_12 : decode b_S1_charAt 12 = .ok (.iand, 1) := by decide +kernel
theorem d_S1_charAt_13 : decode b_S1_charAt 13 = .ok (.i2c, 1) := by decide +kernel
theorem d_S1_charAt_14 : decode b_S1_charAt 14 = .ok (.ireturn, 1) := by decide +kernel
theorem d_St_checkIndex_0 : decode b_St_checkIndex 0 = .ok (.iload_n 0, 1) := by decide +kernel
theorem d_St_checkIndex_1 : decode b_St_checkIndex 1 = .ok (.iload_n 1, 1) := by decide +kernel
theorem d_St_checkIndex_2 : decode b_St_checkIndex 2 = .ok (.getstatic 1053, 3) := by decide +kernel
theorem d_St_checkIndex_5 : decode b_St_checkIndex 5 = .ok (.invokestatic 1059, 3) := by decide +kernel
theorem d_St_checkIndex_8 : decode b_St_checkIndex 8 = .ok (.pop, 1) := by decide +kernel
theorem d_St_checkIndex_9 : decode b_St_checkIndex 9 = .ok (.return_, 1) := by decide +kernel
theorem d_Pr_checkIndex_0 : decode b_Pr_checkIndex 0 = .ok (.iload_n 0, 1) := by decide +kernel
theorem d_Pr_checkIndex_1 : decode b_Pr_checkIndex 1 = .ok (.ifCond .lt 8, 3) := by decide +kernel
theorem d_Pr_checkIndex_4 : decode b_Pr_checkIndex 4 = .ok (.iload_n 0, 1) := by decide +kernel
theorem d_Pr_checkIndex_5 : decode b_Pr_checkIndex 5 = .ok (.iload_n 1, 1) := by decide +kernel
theorem d_Pr_checkIndex_6 : decode b_Pr_checkIndex 6 = .ok (.if_icmp .lt 10, 3) := by decide +kernel
theorem d_Pr_checkIndex_9 : decode b_Pr_checkIndex 9 = .ok (.aload_n 2, 1) := by decide +kernel
theorem d_Pr_checkIndex_10 : decode b_Pr_checkIndex 10 = .ok (.iload_n 0, 1) := by decide +kernel
theorem d_Pr_checkIndex_11 : decode b_Pr_checkIndex 11 = .ok (.iload_n 1, 1) := by decide +kernel
theorem d_Pr_checkIndex_12 : decode b_Pr_checkIndex 12 = .ok (.invokestatic 95, 3) := by decide +kernel
theorem d_Pr_checkIndex_15 : decode b_Pr_checkIndex 15 = .ok (.athrow, 1) := by decide +kernel
theorem d_Pr_checkIndex_16 : decode b_Pr_checkIndex 16 = .ok (.iload_n 0, 1) := by decide +kernel
theorem d_Pr_checkIndex_17 : decode b_Pr_checkIndex 17 = .ok (.ireturn, 1) := by decide +kernel
theorem d_S6_charAt_0 : decode b_S6_charAt 0 = .ok (.iload_n 1, 1) := by decide +kernel
theorem d_S6_charAt_1 : decode b_S6_charAt 1 = .ok (.aload_n 0, 1) := by decide +kernel
theorem d_S6_charAt_2 : decode b_S6_charAt 2 = .ok (.invokestatic 67, 3) := by decide +kernel
theorem d_S6_charAt_5 : decode b_S6_charAt 5 = .ok (.aload_n 0, 1) := by decide +kernel
theorem d_S6_charAt_6 : decode b_S6_charAt 6 = .ok (.iload_n 1, 1) := by decide +kernel
theorem d_S6_charAt_7 : decode b_S6_charAt 7 = .ok (.invokestatic 71, 3) := by decide +kernel
theorem d_S6_charAt_10 : decode b_S6_charAt 10 = .ok (.ireturn, 1) := by decide +kernel
theorem d_S6_checkIndex_0 : decode b_S6_checkIndex 0 = .ok (.iload_n 0, 1) := by decide +kernel
theorem d_S6_checkIndex_1 : decode b_S6_checkIndex 1 = .ok (.aload_n 1, 1) := by decide +kernel
theorem d_S6_checkIndex_2 : decode b_S6_checkIndex 2 = .ok (.invokestatic 48, 3) := by decide +kernel
theorem d_S6_checkIndex_5 : decode b_S6_checkIndex 5 = .ok (.invokestatic 414, 3) := by decide +kernel
theorem d_S6_checkIndex_8 : decode b_S6_checkIndex 8 = .ok (.return_, 1) := by decide +kernel
