theorem d_Rr_init_0 : decode b_Rr_init 0 = .ok (.aload_n 0, 1) := by decide +kernel
theorem d_Rr_init_1 : decode b_Rr_init 1 = .ok (.invokespecial 3, 3) := by decide +kernel
theorem d_Rr_init_4 : decode b_Rr_init 4 = .ok (.aload_n 0, 1) := by decide +kernel
theorem d_Rr_init_5 : decode b_Rr_init 5 = .ok (.iconst 0, 1) := by decide +kernel
theorem d_Rr_init_6 : decode b_Rr_init 6 = .ok (.putfield 9, 3) := by decide +kernel
theorem d_Rr_init_9 : decode b_Rr_init 9 = .ok (.return_, 1) := by decide +kernel
theorem d_Rr_read_0 : decode b_Rr_read 0 = .ok (.aload_n 0, 1) := by decide +kernel
theorem d_Rr_read_1 : decode b_Rr_read 1 = .ok (.iconst 0, 1) := by decide +kernel
theorem d_Rr_read_2 : decode b_Rr_read 2 = .ok (.putfield 9, 3) := by decide +kernel
theorem d_Rr_read_5 : decode b_Rr_read 5 = .ok (.aload_n 0, 1) := by decide +kernel
theorem d_Rr_read_6 : decode b_Rr_read 6 = .ok (.aload_n 1, 1) := by decide +kernel
theorem d_Rr_read_7 : decode b_Rr_read 7 = .ok (.aload_n 2, 1) := by decide +kernel
theorem d_Rr_read_8 : decode b_Rr_read 8 = .ok (.invokevirtual 15, 3) := by decide +kernel
theorem d_Rr_read_11 : decode b_Rr_read 11 = .ok (.ifCond .eq 68, 3) := by decide +kernel
theorem d_Rr_read_14 : decode b_Rr_read 14 = .ok (.aload_n 0, 1) := by decide +kernel
theorem d_Rr_read_15 : decode b_Rr_read 15 = .ok (.aload_n 1, 1) := by decide +kernel
theorem d_Rr_read_16 : decode b_Rr_read 16 = .ok (.aload_n 2, 1) := by decide +kernel
theorem d_Rr_read_17 : decode b_Rr_read 17 = .ok (.iconst 0, 1) := by decide +kernel
theorem d_Rr_read_18 : decode b_Rr_read 18 = .ok (.invokevirtual 21, 3) := by decide +kernel
theorem d_Rr_read_21 : decode b_Rr_read 21 = .ok (.ifCond .eq 58, 3) := by decide +kernel
theorem d_Rr_read_24 : decode b_Rr_read 24 = .ok (.aload_n 0, 1) := by decide +kernel
theorem d_Rr_read_25 : decode b_Rr_read 25 = .ok (.aload_n 1, 1) := by decide +kernel
theorem d_Rr_read_26 : decode b_Rr_read 26 = .ok (.bipush 44, 2) := by decide +kernel
theorem d_Rr_read_28 : decode b_Rr_read 28 = .ok (.invokevirtual 25, 3) := by decide +kernel
theorem d_Rr_read_31 : decode b_Rr_read 31 = .ok (.ifCond .eq 48, 3) := by decide +kernel
theorem d_Rr_read_34 : decode b_Rr_read 34 = .ok (.aload_n 0, 1) := by decide +kernel
theorem d_Rr_read_35 : decode b_Rr_read 35 = .ok (.aload_n 1, 1) := by decide +kernel
theorem d_Rr_read_36 : decode b_Rr_read 36 = .ok (.aload_n 2, 1) := by decide +kernel
theorem d_Rr_read_37 : decode b_Rr_read 37 = .ok (.iconst 1, 1) := by decide +kernel
theorem d_Rr_read_38 : decode b_Rr_read 38 = .ok (.invokevirtual 21, 3) := by decide +kernel
theorem d_Rr_read_41 : decode b_Rr_read 41 = .ok (.ifCond .eq 38, 3) := by decide +kernel
theorem d_Rr_read_44 : decode b_Rr_read 44 = .ok (.aload_n 0, 1) := by decide +kernel
theorem d_Rr_read_45 : decode b_Rr_read 45 = .ok (.aload_n 1, 1) := by decide +kernel
theorem d_Rr_read_46 : decode b_Rr_read 46 = .ok (.bipush 44, 2) := by decide +kernel
theorem d_Rr_read_48 : decode b_Rr_read 48 = .ok (.invokevirtual 25, 3) := by decide +kernel
theorem d_Rr_read_51 : decode b_Rr_read 51 = .ok (.ifCond .eq 28, 3) := by decide +kernel
theorem d_Rr_read_54 : decode b_Rr_read 54 = .ok (.aload_n 0, 1) := by decide +kernel
theorem d_Rr_read_55 : decode b_Rr_read 55 = .ok (.aload_n 1, 1) := by decide +kernel
theorem d_Rr_read_56 : decode b_Rr_read 56 = .ok (.aload_n 2, 1) := by decide +kernel
theorem d_Rr_read_57 : decode b_Rr_read 57 = .ok (.iconst 2, 1) := by decide +kernel
theorem d_Rr_read_58 : decode b_Rr_read 58 = .ok (.invokevirtual 21, 3) := by decide +kernel
theorem d_Rr_read_61 : decode b_Rr_read 61 = .ok (.ifCond .eq 18, 3) := by decide +kernel
theorem d_Rr_read_64 : decode b_Rr_read 64 = .ok (.aload_n 0, 1) := by decide +kernel
theorem d_Rr_read_65 : decode b_Rr_read 65 = .ok (.getfield 9, 3) := by decide +kernel
theorem d_Rr_read_68 : decode b_Rr_read 68 = .ok (.aload_n 1, 1) := by decide +kernel
theorem d_Rr_read_69 : decode b_Rr_read 69 = .ok (.getfield 29, 3) := by decide +kernel
theorem d_Rr_read_72 : decode b_Rr_read 72 = .ok (.if_icmp .ne 7, 3) := by decide +kernel
theorem d_Rr_read_75 : decode b_Rr_read 75 = .ok (.iconst 1, 1) := by decide +kernel
theorem d_Rr_read_76 : decode b_Rr_read 76 = .ok (.goto 4, 3) := by decide +kernel
theorem d_Rr_read_79 : decode b_Rr_read 79 = .ok (.iconst 0, 1) := by decide +kernel
theorem d_Rr_read_80 : decode b_Rr_read 80 = .ok (.ireturn, 1) := by decide +kernel
theorem d_Rr_readLetters_0 : decode b_Rr_readLetters 0 = .ok (.aload_n 2, 1) := by decide +kernel
theorem d_Rr_readLetters_1 : decode b_Rr_readLetters 1 = .ok (.aload_n 0, 1) := by decide +kernel
theorem d_Rr_readLetters_2 : decode b_Rr_readLetters 2 = .ok (.aload_n 1, 1) := by decide +kernel
theorem d_Rr_readLetters_3 : decode b_Rr_readLetters 3 = .ok (.ldc 34, 2) := by decide +kernel
theorem d_Rr_readLetters_5 : decode b_Rr_readLetters 5 = .ok (.invokevirtual 36, 3) := by decide +kernel
theorem d_Rr_readLetters_8 : decode b_Rr_readLetters 8 = .ok (.putfield 40, 3) := by decide +kernel
theorem d_Rr_readLetters_11 : decode b_Rr_readLetters 11 = .ok (.aload_n 2, 1) := by decide +kernel
theorem d_Rr_readLetters_12 : decode b_Rr_readLetters 12 = .ok (.getfield 40, 3) := by decide +kernel
theorem d_Rr_readLetters_15 : decode b_Rr_readLetters 15 = .ok (.iconst (-1), 1) := by decide +kernel
theorem d_Rr_readLetters_16 : decode b_Rr_readLetters 16 = .ok (.if_icmp .ne 5, 3) := by decide +kernel
theorem d_Rr_readLetters_19 : decode b_Rr_readLetters 19 = .ok (.iconst 0, 1) := by decide +kernel
theorem d_Rr_readLetters_20 : decode b_Rr_readLetters 20 = .ok (.ireturn, 1) := by decide +kernel
theorem d_Rr_readLetters_21 : decode b_Rr_readLetters 21 = .ok (.aload_n 2, 1) := by decide +kernel
theorem d_Rr_readLetters_22 : decode b_Rr_readLetters 22 = .ok (.aload_n 0, 1) := by decide +kernel
theorem d_Rr_readLetters_23 : decode b_Rr_readLetters 23 = .ok (.aload_n 1, 1) := by decide +kernel
theorem d_Rr_readLetters_24 : decode b_Rr_readLetters 24 = .ok (.ldc 43, 2) := by decide +kernel
theorem d_Rr_readLetters_26 : decode b_Rr_readLetters 26 = .ok (.invokevirtual 36, 3) := by decide +kernel
theorem d_Rr_readLetters_29 : decode b_Rr_readLetters 29 = .ok (.putfield 45, 3) := by decide +kernel
theorem d_Rr_readLetters_32 : decode b_Rr_readLetters 32 = .ok (.aload_n 2, 1) := by decide +kernel
theorem d_Rr_readLetters_33 : decode b_Rr_readLetters 33 = .ok (.getfield 45, 3) := by decide +kernel
theorem d_Rr_readLetters_36 : decode b_Rr_readLetters 36 = .ok (.iconst (-1), 1) := by decide +kernel
theorem d_Rr_readLetters_37 : decode b_Rr_readLetters 37 = .ok (.if_icmp .ne 5, 3) := by decide +kernel
theorem d_Rr_readLetters_40 : decode b_Rr_readLetters 40 = .ok (.iconst 0, 1) := by decide +kernel
theorem d_Rr_readLetters_41 : decode b_Rr_readLetters 41 = .ok (.ireturn, 1) := by decide +kernel
theorem d_Rr_readLetters_42 : decode b_Rr_readLetters 42 = .ok (.aload_n 2, 1) := by decide +kernel
theorem d_Rr_readLetters_43 : decode b_Rr_readLetters 43 = .ok (.aload_n 0, 1) := by decide +kernel
theorem d_Rr_readLetters_44 : decode b_Rr_readLetters 44 = .ok (.aload_n 1, 1) := by decide +kernel
theorem d_Rr_readLetters_45 : decode b_Rr_readLetters 45 = .ok (.ldc 48, 2) := by decide +kernel
theorem d_Rr_readLetters_47 : decode b_Rr_readLetters 47 = .ok (.invokevirtual 36, 3) := by decide +kernel
theorem d_Rr_readLetters_50 : decode b_Rr_readLetters 50 = .ok (.putfield 50, 3) := by decide +kernel
theorem d_Rr_readLetters_53 : decode b_Rr_readLetters 53 = .ok (.aload_n 2, 1) := by decide +kernel
theorem d_Rr_readLetters_54 : decode b_Rr_readLetters 54 = .ok (.getfield 50, 3) := by decide +kernel
theorem d_Rr_readLetters_57 : decode b_Rr_readLetters 57 = .ok (.iconst (-1), 1) := by decide +kernel
theorem d_Rr_readLetters_58 : decode b_Rr_readLetters 58 = .ok (.if_icmp .eq 7, 3) := by decide +kernel
theorem d_Rr_readLetters_61 : decode b_Rr_readLetters 61 = .ok (.iconst 1, 1) := by decide +kernel
theorem d_Rr_readLetters_62 : decode b_Rr_readLetters 62 = .ok (.goto 4, 3) := by decide +kernel
theorem d_Rr_readLetters_65 : decode b_Rr_readLetters 65 = .ok (.iconst 0, 1) := by decide +kernel
theorem d_Rr_readLetters_66 : decode b_Rr_readLetters 66 = .ok (.ireturn, 1) := by decide +kernel
theorem d_Rr_readOneOf_0 : decode b_Rr_readOneOf 0 = .ok (.aload_n 2, 1) := by decide +kernel
theorem d_Rr_readOneOf_1 : decode b_Rr_readOneOf 1 = .ok (.aload_n 1, 1) := by decide +kernel
theorem d_Rr_readOneOf_2 : decode b_Rr_readOneOf 2 = .ok (.aload_n 0, 1) := by decide +kernel
theorem d_Rr_readOneOf_3 : decode b_Rr_readOneOf 3 = .ok (.getfield 9, 3) := by decide +kernel
theorem d_Rr_readOneOf_6 : decode b_Rr_readOneOf 6 = .ok (.invokevirtual 53, 3) := by decide +kernel
theorem d_Rr_readOneOf_9 : decode b_Rr_readOneOf 9 = .ok (.invokevirtual 57, 3) := by decide +kernel
theorem d_Rr_readOneOf_12 : decode b_Rr_readOneOf 12 = .ok (.istore_n 3, 1) := by decide +kernel
theorem d_Rr_readOneOf_13 : decode b_Rr_readOneOf 13 = .ok (.iload_n 3, 1) := by decide +kernel
theorem d_Rr_readOneOf_14 : decode b_Rr_readOneOf 14 = .ok (.iconst (-1), 1) := by decide +kernel
theorem d_Rr_readOneOf_15 : decode b_Rr_readOneOf 15 = .ok (.if_icmp .eq 13, 3) := by decide +kernel
theorem d_Rr_readOneOf_18 : decode b_Rr_readOneOf 18 = .ok (.aload_n 0, 1) := by decide +kernel
theorem d_Rr_readOneOf_19 : decode b_Rr_readOneOf 19 = .ok (.dup, 1) := by decide +kernel
theorem d_Rr_readOneOf_20 : decode b_Rr_readOneOf 20 = .ok (.getfield 9, 3) := by decide +kernel
theorem d_Rr_readOneOf_23 : decode b_Rr_readOneOf 23 = .ok (.iconst 1, 1) := by decide +kernel
theorem d_Rr_readOneOf_24 : decode b_Rr_readOneOf 24 = .ok (.iadd, 1) := by decide +kernel
theorem d_Rr_readOneOf_25 : decode b_Rr_readOneOf 25 = .ok (.putfield 9, 3) := by decide +kernel
theorem d_Rr_readOneOf_28 : decode b_Rr_readOneOf 28 = .ok (.iload_n 3, 1) := by decide +kernel
theorem d_Rr_readOneOf_29 : decode b_Rr_readOneOf 29 = .ok (.ireturn, 1) := by decide +kernel
theorem d_Rr_readRange_0 : decode b_Rr_readRange 0 = .ok (.aload_n 0, 1) := by decide +kernel
theorem d_Rr_readRange_1 : decode b_Rr_readRange 1 = .ok (.aload_n 1, 1) := by decide +kernel
theorem d_Rr_readRange_2 : decode b_Rr_readRange 2 = .ok (.bipush 42, 2) := by decide +kernel
theorem d_Rr_readRange_4 : decode b_Rr_readRange 4 = .ok (.invokevirtual 25, 3) := by decide +kernel
theorem d_Rr_readRange_7 : decode b_Rr_readRange 7 = .ok (.ifCond .eq 14, 3) := by decide +kernel
theorem d_Rr_readRange_10 : decode b_Rr_readRange 10 = .ok (.aload_n 2, 1) := by decide +kernel
theorem d_Rr_readRange_11 : decode b_Rr_readRange 11 = .ok (.iload_n 3, 1) := by decide +kernel
theorem d_Rr_readRange_12 : decode b_Rr_readRange 12 = .ok (.iconst 0, 1) := by decide +kernel
theorem d_Rr_readRange_13 : decode b_Rr_readRange 13 = .ok (.sipush 255, 3) := by decide +kernel
theorem d_Rr_readRange_16 : decode b_Rr_readRange 16 = .ok (.invokevirtual 63, 3) := by decide +kernel
theorem d_Rr_readRange_19 : decode b_Rr_readRange 19 = .ok (.iconst 1, 1) := by decide +kernel
theorem d_Rr_readRange_20 : decode b_Rr_readRange 20 = .ok (.ireturn, 1) := by decide +kernel
theorem d_Rr_readRange_21 : decode b_Rr_readRange 21 = .ok (.aload_n 0, 1) := by decide +kernel
theorem d_Rr_readRange_22 : decode b_Rr_readRange 22 = .ok (.aload_n 1, 1) := by decide +kernel
theorem d_Rr_readRange_23 : decode b_Rr_readRange 23 = .ok (.iconst 0, 1) := by decide +kernel
theorem d_Rr_readRange_24 : decode b_Rr_readRange 24 = .ok (.invokevirtual 67, 3) := by decide +kernel
theorem d_Rr_readRange_27 : decode b_Rr_readRange 27 = .ok (.istore 4, 2) := by decide +kernel
theorem d_Rr_readRange_29 : decode b_Rr_readRange 29 = .ok (.iload 4, 2) := by decide +kernel
theorem d_Rr_readRange_31 : decode b_Rr_readRange 31 = .ok (.iconst (-1), 1) := by decide +kernel
theorem d_Rr_readRange_32 : decode b_Rr_readRange 32 = .ok (.if_icmp .ne 5, 3) := by decide +kernel
theorem d_Rr_readRange_35 : decode b_Rr_readRange 35 = .ok (.iconst 0, 1) := by decide +kernel
theorem d_Rr_readRange_36 : decode b_Rr_readRange 36 = .ok (.ireturn, 1) := by decide +kernel
theorem d_Rr_readRange_37 : decode b_Rr_readRange 37 = .ok (.aload_n 0, 1) := by decide +kernel
theorem d_Rr_readRange_38 : decode b_Rr_readRange 38 = .ok (.aload_n 1, 1) := by decide +kernel
theorem d_Rr_readRange_39 : decode b_Rr_readRange 39 = .ok (.bipush 45, 2) := by decide +kernel
theorem d_Rr_readRange_41 : decode b_Rr_readRange 41 = .ok (.invokevirtual 25, 3) := by decide +kernel
theorem d_Rr_readRange_44 : decode b_Rr_readRange 44 = .ok (.ifCond .eq 13, 3) := by decide +kernel
theorem d_Rr_readRange_47 : decode b_Rr_readRange 47 = .ok (.aload_n 0, 1) := by decide +kernel
theorem d_Rr_readRange_48 : decode b_Rr_readRange 48 = .ok (.aload_n 1, 1) := by decide +kernel
theorem d_Rr_readRange_49 : decode b_Rr_readRange 49 = .ok (.iload 4, 2) := by decide +kernel
theorem d_Rr_readRange_51 : decode b_Rr_readRange 51 = .ok (.invokevirtual 67, 3) := by decide +kernel
theorem d_Rr_readRange_54 : decode b_Rr_readRange 54 = .ok (.goto 5, 3) := by decide +kernel
theorem d_Rr_readRange_57 : decode b_Rr_readRange 57 = .ok (.iload 4, 2) := by decide +kernel
theorem d_Rr_readRange_59 : decode b_Rr_readRange 59 = .ok (.istore 5, 2) := by decide +kernel
theorem d_Rr_readRange_61 : decode b_Rr_readRange 61 = .ok (.iload 5, 2) := by decide +kernel
theorem d_Rr_readRange_63 : decode b_Rr_readRange 63 = .ok (.iconst (-1), 1) := by decide +kernel
theorem d_Rr_readRange_64 : decode b_Rr_readRange 64 = .ok (.if_icmp .ne 5, 3) := by decide +kernel
theorem d_Rr_readRange_67 : decode b_Rr_readRange 67 = .ok (.iconst 0, 1) := by decide +kernel
theorem d_Rr_readRange_68 : decode b_Rr_readRange 68 = .ok (.ireturn, 1) := by decide +kernel
theorem d_Rr_readRange_69 : decode b_Rr_readRange 69 = .ok (.aload_n 2, 1) := by decide +kernel
theorem d_Rr_readRange_70 : decode b_Rr_readRange 70 = .ok (.iload_n 3, 1) := by decide +kernel
theorem d_Rr_readRange_71 : decode b_Rr_readRange 71 = .ok (.iload 4, 2) := by decide +kernel
theorem d_Rr_readRange_73 : decode b_Rr_readRange 73 = .ok (.iload 5, 2) := by decide +kernel
theorem d_Rr_readRange_75 : decode b_Rr_readRange 75 = .ok (.invokevirtual 63, 3) := by decide +kernel
theorem d_Rr_readRange_78 : decode b_Rr_readRange 78 = .ok (.iconst 1, 1) := by decide +kernel
theorem d_Rr_readRange_79 : decode b_Rr_readRange 79 = .ok (.ireturn, 1) := by decide +kernel
theorem d_Rr_readMark_0 : decode b_Rr_readMark 0 = .ok (.aload_n 1, 1) := by decide +kernel
theorem d_Rr_readMark_1 : decode b_Rr_readMark 1 = .ok (.aload_n 0, 1) := by decide +kernel
theorem d_Rr_readMark_2 : decode b_Rr_readMark 2 = .ok (.getfield 9, 3) := by decide +kernel
theorem d_Rr_readMark_5 : decode b_Rr_readMark 5 = .ok (.invokevirtual 53, 3) := by decide +kernel
theorem d_Rr_readMark_8 : decode b_Rr_readMark 8 = .ok (.iload_n 2, 1) := by decide +kernel
theorem d_Rr_readMark_9 : decode b_Rr_readMark 9 = .ok (.if_icmp .eq 5, 3) := by decide +kernel
theorem d_Rr_readMark_12 : decode b_Rr_readMark 12 = .ok (.iconst 0, 1) := by decide +kernel
theorem d_Rr_readMark_13 : decode b_Rr_readMark 13 = .ok (.ireturn, 1) := by decide +kernel
theorem d_Rr_readMark_14 : decode b_Rr_readMark 14 = .ok (.aload_n 0, 1) := by decide +kernel
theorem d_Rr_readMark_15 : decode b_Rr_readMark 15 = .ok (.dup, 1) := by decide +kernel
theorem d_Rr_readMark_16 : decode b_Rr_readMark 16 = .ok (.getfield 9, 3) := by decide +kernel
theorem d_Rr_readMark_19 : decode b_Rr_readMark 19 = .ok (.iconst 1, 1) := by decide +kernel
theorem d_Rr_readMark_20 : decode b_Rr_readMark 20 = .ok (.iadd, 1) := by decide +kernel
theorem d_Rr_readMark_21 : decode b_Rr_readMark 21 = .ok (.putfield 9, 3) := by decide +kernel
theorem d_Rr_readMark_24 : decode b_Rr_readMark 24 = .ok (.iconst 1, 1) := by decide +kernel
theorem d_Rr_readMark_25 : decode b_Rr_readMark 25 = .ok (.ireturn, 1) := by decide +kernel
theorem d_Rr_readNumber_0 : decode b_Rr_readNumber 0 = .ok (.iconst 0, 1) := by decide +kernel
theorem d_Rr_readNumber_1 : decode b_Rr_readNumber 1 = .ok (.istore_n 3, 1) := by decide +kernel
theorem d_Rr_readNumber_2 : decode b_Rr_readNumber 2 = .ok (.iconst 0, 1) := by decide +kernel
theorem d_Rr_readNumber_3 : decode b_Rr_readNumber 3 = .ok (.istore 4, 2) := by decide +kernel
theorem d_Rr_readNumber_5 : decode b_Rr_readNumber 5 = .ok (.aload_n 0, 1) := by decide +kernel
theorem d_Rr_readNumber_6 : decode b_Rr_readNumber 6 = .ok (.getfield 9, 3) := by decide +kernel
theorem d_Rr_readNumber_9 : decode b_Rr_readNumber 9 = .ok (.aload_n 1, 1) := by decide +kernel
theorem d_Rr_readNumber_10 : decode b_Rr_readNumber 10 = .ok (.getfield 29, 3) := by decide +kernel
theorem d_Rr_readNumber_13 : decode b_Rr_readNumber 13 = .ok (.if_icmp .ge 75, 3) := by decide +kernel
theorem d_Rr_readNumber_16 : decode b_Rr_readNumber 16 = .ok (.aload_n 1, 1) := by decide +kernel
theorem d_Rr_readNumber_17 : decode b_Rr_readNumber 17 = .ok (.aload_n 0, 1) := by decide +kernel
theorem d_Rr_readNumber_18 : decode b_Rr_readNumber 18 = .ok (.getfield 9, 3) := by decide +kernel
theorem d_Rr_readNumber_21 : decode b_Rr_readNumber 21 = .ok (.invokevirtual 53, 3) := by decide +kernel
theorem d_Rr_readNumber_24 : decode b_Rr_readNumber 24 = .ok (.invokestatic 71, 3) := by decide +kernel
theorem d_Rr_readNumber_27 : decode b_Rr_readNumber 27 = .ok (.ifCond .eq 61, 3) := by decide +kernel
theorem d_Rr_readNumber_30 : decode b_Rr_readNumber 30 = .ok (.iload_n 3, 1) := by decide +kernel
theorem d_Rr_readNumber_31 : decode b_Rr_readNumber 31 = .ok (.bipush 10, 2) := by decide +kernel
theorem d_Rr_readNumber_33 : decode b_Rr_readNumber 33 = .ok (.imul, 1) := by decide +kernel
theorem d_Rr_readNumber_34 : decode b_Rr_readNumber 34 = .ok (.aload_n 1, 1) := by decide +kernel
theorem d_Rr_readNumber_35 : decode b_Rr_readNumber 35 = .ok (.aload_n 0, 1) := by decide +kernel
theorem d_Rr_readNumber_36 : decode b_Rr_readNumber 36 = .ok (.getfield 9, 3) := by decide +kernel
theorem d_Rr_readNumber_39 : decode b_Rr_readNumber 39 = .ok (.invokevirtual 53, 3) := by decide +kernel
theorem d_Rr_readNumber_42 : decode b_Rr_readNumber 42 = .ok (.bipush 48, 2) := by decide +kernel
theorem d_Rr_readNumber_44 : decode b_Rr_readNumber 44 = .ok (.isub, 1) := by decide +kernel
theorem d_Rr_readNumber_45 : decode b_Rr_readNumber 45 = .ok (.iadd, 1) := by decide +kernel
theorem d_Rr_readNumber_46 : decode b_Rr_readNumber 46 = .ok (.istore_n 3, 1) := by decide +kernel
theorem d_Rr_readNumber_47 : decode b_Rr_readNumber 47 = .ok (.iinc 4 1, 3) := by decide +kernel
theorem d_Rr_readNumber_50 : decode b_Rr_readNumber 50 = .ok (.iload 4, 2) := by decide +kernel
theorem d_Rr_readNumber_52 : decode b_Rr_readNumber 52 = .ok (.iconst 3, 1) := by decide +kernel
theorem d_Rr_readNumber_53 : decode b_Rr_readNumber 53 = .ok (.if_icmp .gt 20, 3) := by decide +kernel
theorem d_Rr_readNumber_56 : decode b_Rr_readNumber 56 = .ok (.iload_n 3, 1) := by decide +kernel
theorem d_Rr_readNumber_57 : decode b_Rr_readNumber 57 = .ok (.sipush 255, 3) := by decide +kernel
theorem d_Rr_readNumber_60 : decode b_Rr_readNumber 60 = .ok (.if_icmp .gt 13, 3) := by decide +kernel
theorem d_Rr_readNumber_63 : decode b_Rr_readNumber 63 = .ok (.iload_n 3, 1) := by decide +kernel
theorem d_Rr_readNumber_64 : decode b_Rr_readNumber 64 = .ok (.iload 4, 2) := by decide +kernel
theorem d_Rr_readNumber_66 : decode b_Rr_readNumber 66 = .ok (.invokestatic 75, 3) := by decide +kernel
theorem d_Rr_readNumber_69 : decode b_Rr_readNumber 69 = .ok (.iload_n 2, 1) := by decide +kernel
theorem d_Rr_readNumber_70 : decode b_Rr_readNumber 70 = .ok (.if_icmp .ge 5, 3) := by decide +kernel
theorem d_Rr_readNumber_73 : decode b_Rr_readNumber 73 = .ok (.iconst (-1), 1) := by decide +kernel
theorem d_Rr_readNumber_74 : decode b_Rr_readNumber 74 = .ok (.ireturn, 1) := by decide +kernel
theorem d_Rr_readNumber_75 : decode b_Rr_readNumber 75 = .ok (.aload_n 0, 1) := by decide +kernel
theorem d_Rr_readNumber_76 : decode b_Rr_readNumber 76 = .ok (.dup, 1) := by decide +kernel
theorem d_Rr_readNumber_77 : decode b_Rr_readNumber 77 = .ok (.getfield 9, 3) := by decide +kernel
theorem d_Rr_readNumber_80 : decode b_Rr_readNumber 80 = .ok (.iconst 1, 1) := by decide +kernel
theorem d_Rr_readNumber_81 : decode b_Rr_readNumber 81 = .ok (.iadd, 1) := by decide +kernel
theorem d_Rr_readNumber_82 : decode b_Rr_readNumber 82 = .ok (.putfield 9, 3) := by decide +kernel
theorem d_Rr_readNumber_85 : decode b_Rr_readNumber 85 = .ok (.goto (-80), 3) := by decide +kernel
theorem d_Rr_readNumber_88 : decode b_Rr_readNumber 88 = .ok (.iload 4, 2) := by decide +kernel
theorem d_Rr_readNumber_90 : decode b_Rr_readNumber 90 = .ok (.ifCond .le 12, 3) := by decide +kernel
theorem d_Rr_readNumber_93 : decode b_Rr_readNumber 93 = .ok (.iload_n 3, 1) := by decide +kernel
theorem d_Rr_readNumber_94 : decode b_Rr_readNumber 94 = .ok (.iload_n 2, 1) := by decide +kernel
theorem d_Rr_readNumber_95 : decode b_Rr_readNumber 95 = .ok (.if_icmp .lt 7, 3) := by decide +kernel
theorem d_Rr_readNumber_98 : decode b_Rr_readNumber 98 = .ok (.iload_n 3, 1) := by decide +kernel
theorem d_Rr_readNumber_99 : decode b_Rr_readNumber 99 = .ok (.goto 4, 3) := by decide +kernel
theorem d_Rr_readNumber_102 : decode b_Rr_readNumber 102 = .ok (.iconst (-1), 1) := by decide +kernel
theorem d_Rr_readNumber_103 : decode b_Rr_readNumber 103 = .ok (.ireturn, 1) := by decide +kernel
theorem d_Rr_isDigit_0 : decode b_Rr_isDigit 0 = .ok (.iload_n 0, 1) := by decide +kernel
theorem d_Rr_isDigit_1 : decode b_Rr_isDigit 1 = .ok (.bipush 48, 2) := by decide +kernel
theorem d_Rr_isDigit_3 : decode b_Rr_isDigit 3 = .ok (.if_icmp .lt 13, 3) := by decide +kernel
theorem d_Rr_isDigit_6 : decode b_Rr_isDigit 6 = .ok (.iload_n 0, 1) := by decide +kernel
theorem d_Rr_isDigit_7 : decode b_Rr_isDigit 7 = .ok (.bipush 57, 2) := by decide +kernel
theorem d_Rr_isDigit_9 : decode b_Rr_isDigit 9 = .ok (.if_icmp .gt 7, 3) := by decide +kernel
theorem d_Rr_isDigit_12 : decode b_Rr_isDigit 12 = .ok (.iconst 1, 1) := by decide +kernel
theorem d_Rr_isDigit_13 : decode b_Rr_isDigit 13 = .ok (.goto 4, 3) := by decide +kernel
theorem d_Rr_isDigit_16 : decode b_Rr_isDigit 16 = .ok (.iconst 0, 1) := by decide +kernel
theorem d_Rr_isDigit_17 : decode b_Rr_isDigit 17 = .ok (.ireturn, 1) := by decide +kernel
theorem d_Rr_greatestFrom_0 : decode b_Rr_greatestFrom 0 = .ok (.iload_n 0, 1) := by decide +kernel
theorem d_Rr_greatestFrom_1 : decode b_Rr_greatestFrom 1 = .ok (.istore_n 2, 1) := by decide +kernel
theorem d_Rr_greatestFrom_2 : decode b_Rr_greatestFrom 2 = .ok (.iload_n 0, 1) := by decide +kernel
theorem d_Rr_greatestFrom_3 : decode b_Rr_greatestFrom 3 = .ok (.istore_n 3, 1) := by decide +kernel
theorem d_Rr_greatestFrom_4 : decode b_Rr_greatestFrom 4 = .ok (.iload_n 0, 1) := by decide +kernel
theorem d_Rr_greatestFrom_5 : decode b_Rr_greatestFrom 5 = .ok (.istore 4, 2) := by decide +kernel
theorem d_Rr_greatestFrom_7 : decode b_Rr_greatestFrom 7 = .ok (.iload_n 1, 1) := by decide +kernel
theorem d_Rr_greatestFrom_8 : decode b_Rr_greatestFrom 8 = .ok (.istore 5, 2) := by decide +kernel
theorem d_Rr_greatestFrom_10 : decode b_Rr_greatestFrom 10 = .ok (.iload 5, 2) := by decide +kernel
theorem d_Rr_greatestFrom_12 : decode b_Rr_greatestFrom 12 = .ok (.iconst 3, 1) := by decide +kernel
theorem d_Rr_greatestFrom_13 : decode b_Rr_greatestFrom 13 = .ok (.if_icmp .ge 40, 3) := by decide +kernel
theorem d_Rr_greatestFrom_16 : decode b_Rr_greatestFrom 16 = .ok (.iload_n 3, 1) := by decide +kernel
theorem d_Rr_greatestFrom_17 : decode b_Rr_greatestFrom 17 = .ok (.bipush 10, 2) := by decide +kernel
theorem d_Rr_greatestFrom_19 : decode b_Rr_greatestFrom 19 = .ok (.imul, 1) := by decide +kernel
theorem d_Rr_greatestFrom_20 : decode b_Rr_greatestFrom 20 = .ok (.istore_n 3, 1) := by decide +kernel
theorem d_Rr_greatestFrom_21 : decode b_Rr_greatestFrom 21 = .ok (.iload 4, 2) := by decide +kernel
theorem d_Rr_greatestFrom_23 : decode b_Rr_greatestFrom 23 = .ok (.bipush 10, 2) := by decide +kernel
theorem d_Rr_greatestFrom_25 : decode b_Rr_greatestFrom 25 = .ok (.imul, 1) := by decide +kernel
theorem d_Rr_greatestFrom_26 : decode b_Rr_greatestFrom 26 = .ok (.bipush 9, 2) := by decide +kernel
theorem d_Rr_greatestFrom_28 : decode b_Rr_greatestFrom 28 = .ok (.iadd, 1) := by decide +kernel
theorem d_Rr_greatestFrom_29 : decode b_Rr_greatestFrom 29 = .ok (.istore 4, 2) := by decide +kernel
theorem d_Rr_greatestFrom_31 : decode b_Rr_greatestFrom 31 = .ok (.iload_n 3, 1) := by decide +kernel
theorem d_Rr_greatestFrom_32 : decode b_Rr_greatestFrom 32 = .ok (.sipush 255, 3) := by decide +kernel
theorem d_Rr_greatestFrom_35 : decode b_Rr_greatestFrom 35 = .ok (.if_icmp .gt 12, 3) := by decide +kernel
theorem d_Rr_greatestFrom_38 : decode b_Rr_greatestFrom 38 = .ok (.iload 4, 2) := by decide +kernel
theorem d_Rr_greatestFrom_40 : decode b_Rr_greatestFrom 40 = .ok (.sipush 255, 3) := by decide +kernel
theorem d_Rr_greatestFrom_43 : decode b_Rr_greatestFrom 43 = .ok (.invokestatic 79, 3) := by decide +kernel
theorem d_Rr_greatestFrom_46 : decode b_Rr_greatestFrom 46 = .ok (.istore_n 2, 1) := by decide +kernel
theorem d_Rr_greatestFrom_47 : decode b_Rr_greatestFrom 47 = .ok (.iinc 5 1, 3) := by decide +kernel
theorem d_Rr_greatestFrom_50 : decode b_Rr_greatestFrom 50 = .ok (.goto (-40), 3) := by decide +kernel
theorem d_Rr_greatestFrom_53 : decode b_Rr_greatestFrom 53 = .ok (.iload_n 2, 1) := by decide +kernel
theorem d_Rr_greatestFrom_54 : decode b_Rr_greatestFrom 54 = .ok (.ireturn, 1) := by decide +kernel
