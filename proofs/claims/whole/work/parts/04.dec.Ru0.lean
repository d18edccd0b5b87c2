theorem d_Ru_init_0 : decode b_Ru_init 0 = .ok (.aload_n 0, 1) := by decide +kernel
theorem d_Ru_init_1 : decode b_Ru_init 1 = .ok (.invokespecial 3, 3) := by decide +kernel
theorem d_Ru_init_4 : decode b_Ru_init 4 = .ok (.aload_n 0, 1) := by decide +kernel
theorem d_Ru_init_5 : decode b_Ru_init 5 = .ok (.iconst 1, 1) := by decide +kernel
theorem d_Ru_init_6 : decode b_Ru_init 6 = .ok (.putfield 9, 3) := by decide +kernel
theorem d_Ru_init_9 : decode b_Ru_init 9 = .ok (.aload_n 0, 1) := by decide +kernel
theorem d_Ru_init_10 : decode b_Ru_init 10 = .ok (.iconst 2, 1) := by decide +kernel
theorem d_Ru_init_11 : decode b_Ru_init 11 = .ok (.putfield 15, 3) := by decide +kernel
theorem d_Ru_init_14 : decode b_Ru_init 14 = .ok (.aload_n 0, 1) := by decide +kernel
theorem d_Ru_init_15 : decode b_Ru_init 15 = .ok (.iconst 3, 1) := by decide +kernel
theorem d_Ru_init_16 : decode b_Ru_init 16 = .ok (.putfield 18, 3) := by decide +kernel
theorem d_Ru_init_19 : decode b_Ru_init 19 = .ok (.aload_n 0, 1) := by decide +kernel
theorem d_Ru_init_20 : decode b_Ru_init 20 = .ok (.iconst 3, 1) := by decide +kernel
theorem d_Ru_init_21 : decode b_Ru_init 21 = .ok (.newarray .int, 2) := by decide +kernel
theorem d_Ru_init_23 : decode b_Ru_init 23 = .ok (.putfield 21, 3) := by decide +kernel
theorem d_Ru_init_26 : decode b_Ru_init 26 = .ok (.aload_n 0, 1) := by decide +kernel
theorem d_Ru_init_27 : decode b_Ru_init 27 = .ok (.iconst 3, 1) := by decide +kernel
theorem d_Ru_init_28 : decode b_Ru_init 28 = .ok (.newarray .int, 2) := by decide +kernel
theorem d_Ru_init_30 : decode b_Ru_init 30 = .ok (.putfield 25, 3) := by decide +kernel
theorem d_Ru_init_33 : decode b_Ru_init 33 = .ok (.return_, 1) := by decide +kernel
theorem d_Ru_setRange_0 : decode b_Ru_setRange 0 = .ok (.aload_n 0, 1) := by decide +kernel
theorem d_Ru_setRange_1 : decode b_Ru_setRange 1 = .ok (.getfield 21, 3) := by decide +kernel
theorem d_Ru_setRange_4 : decode b_Ru_setRange 4 = .ok (.iload_n 1, 1) := by decide +kernel
theorem d_Ru_setRange_5 : decode b_Ru_setRange 5 = .ok (.iload_n 2, 1) := by decide +kernel
theorem d_Ru_setRange_6 : decode b_Ru_setRange 6 = .ok (.iastore, 1) := by decide +kernel
theorem d_Ru_setRange_7 : decode b_Ru_setRange 7 = .ok (.aload_n 0, 1) := by decide +kernel
theorem d_Ru_setRange_8 : decode b_Ru_setRange 8 = .ok (.getfield 25, 3) := by decide +kernel
theorem d_Ru_setRange_11 : decode b_Ru_setRange 11 = .ok (.iload_n 1, 1) := by decide +kernel
theorem d_Ru_setRange_12 : decode b_Ru_setRange 12 = .ok (.iload_n 3, 1) := by decide +kernel
theorem d_Ru_setRange_13 : decode b_Ru_setRange 13 = .ok (.iastore, 1) := by decide +kernel
theorem d_Ru_setRange_14 : decode b_Ru_setRange 14 = .ok (.return_, 1) := by decide +kernel
theorem d_Ru_write_0 : decode b_Ru_write 0 = .ok (.aload_n 1, 1) := by decide +kernel
theorem d_Ru_write_1 : decode b_Ru_write 1 = .ok (.invokevirtual 39, 3) := by decide +kernel
theorem d_Ru_write_4 : decode b_Ru_write 4 = .ok (.aload_n 1, 1) := by decide +kernel
theorem d_Ru_write_5 : decode b_Ru_write 5 = .ok (.ldc 44, 2) := by decide +kernel
theorem d_Ru_write_7 : decode b_Ru_write 7 = .ok (.aload_n 0, 1) := by decide +kernel
theorem d_Ru_write_8 : decode b_Ru_write 8 = .ok (.getfield 9, 3) := by decide +kernel
theorem d_Ru_write_11 : decode b_Ru_write 11 = .ok (.invokevirtual 46, 3) := by decide +kernel
theorem d_Ru_write_14 : decode b_Ru_write 14 = .ok (.invokevirtual 52, 3) := by decide +kernel
theorem d_Ru_write_17 : decode b_Ru_write 17 = .ok (.aload_n 1, 1) := by decide +kernel
theorem d_Ru_write_18 : decode b_Ru_write 18 = .ok (.ldc 56, 2) := by decide +kernel
theorem d_Ru_write_20 : decode b_Ru_write 20 = .ok (.aload_n 0, 1) := by decide +kernel
theorem d_Ru_write_21 : decode b_Ru_write 21 = .ok (.getfield 15, 3) := by decide +kernel
theorem d_Ru_write_24 : decode b_Ru_write 24 = .ok (.invokevirtual 46, 3) := by decide +kernel
theorem d_Ru_write_27 : decode b_Ru_write 27 = .ok (.invokevirtual 52, 3) := by decide +kernel
theorem d_Ru_write_30 : decode b_Ru_write 30 = .ok (.aload_n 1, 1) := by decide +kernel
theorem d_Ru_write_31 : decode b_Ru_write 31 = .ok (.ldc 58, 2) := by decide +kernel
theorem d_Ru_write_33 : decode b_Ru_write 33 = .ok (.aload_n 0, 1) := by decide +kernel
theorem d_Ru_write_34 : decode b_Ru_write 34 = .ok (.getfield 18, 3) := by decide +kernel
theorem d_Ru_write_37 : decode b_Ru_write 37 = .ok (.invokevirtual 46, 3) := by decide +kernel
theorem d_Ru_write_40 : decode b_Ru_write 40 = .ok (.invokevirtual 52, 3) := by decide +kernel
theorem d_Ru_write_43 : decode b_Ru_write 43 = .ok (.iconst 0, 1) := by decide +kernel
theorem d_Ru_write_44 : decode b_Ru_write 44 = .ok (.istore_n 2, 1) := by decide +kernel
theorem d_Ru_write_45 : decode b_Ru_write 45 = .ok (.iload_n 2, 1) := by decide +kernel
theorem d_Ru_write_46 : decode b_Ru_write 46 = .ok (.iconst 3, 1) := by decide +kernel
theorem d_Ru_write_47 : decode b_Ru_write 47 = .ok (.if_icmp .ge 35, 3) := by decide +kernel
theorem d_Ru_write_50 : decode b_Ru_write 50 = .ok (.iload_n 2, 1) := by decide +kernel
theorem d_Ru_write_51 : decode b_Ru_write 51 = .ok (.ifCond .le 9, 3) := by decide +kernel
theorem d_Ru_write_54 : decode b_Ru_write 54 = .ok (.aload_n 1, 1) := by decide +kernel
theorem d_Ru_write_55 : decode b_Ru_write 55 = .ok (.bipush 44, 2) := by decide +kernel
theorem d_Ru_write_57 : decode b_Ru_write 57 = .ok (.invokevirtual 52, 3) := by decide +kernel
theorem d_Ru_write_60 : decode b_Ru_write 60 = .ok (.aload_n 1, 1) := by decide +kernel
theorem d_Ru_write_61 : decode b_Ru_write 61 = .ok (.aload_n 0, 1) := by decide +kernel
theorem d_Ru_write_62 : decode b_Ru_write 62 = .ok (.getfield 21, 3) := by decide +kernel
theorem d_Ru_write_65 : decode b_Ru_write 65 = .ok (.iload_n 2, 1) := by decide +kernel
theorem d_Ru_write_66 : decode b_Ru_write 66 = .ok (.iaload, 1) := by decide +kernel
theorem d_Ru_write_67 : decode b_Ru_write 67 = .ok (.aload_n 0, 1) := by decide +kernel
theorem d_Ru_write_68 : decode b_Ru_write 68 = .ok (.getfield 25, 3) := by decide +kernel
theorem d_Ru_write_71 : decode b_Ru_write 71 = .ok (.iload_n 2, 1) := by decide +kernel
theorem d_Ru_write_72 : decode b_Ru_write 72 = .ok (.iaload, 1) := by decide +kernel
theorem d_Ru_write_73 : decode b_Ru_write 73 = .ok (.invokestatic 60, 3) := by decide +kernel
theorem d_Ru_write_76 : decode b_Ru_write 76 = .ok (.iinc 2 1, 3) := by decide +kernel
theorem d_Ru_write_79 : decode b_Ru_write 79 = .ok (.goto (-34), 3) := by decide +kernel
theorem d_Ru_write_82 : decode b_Ru_write 82 = .ok (.return_, 1) := by decide +kernel
theorem d_Ru_writeRange_0 : decode b_Ru_writeRange 0 = .ok (.iload_n 1, 1) := by decide +kernel
theorem d_Ru_writeRange_1 : decode b_Ru_writeRange 1 = .ok (.ifCond .ne 17, 3) := by decide +kernel
theorem d_Ru_writeRange_4 : decode b_Ru_writeRange 4 = .ok (.iload_n 2, 1) := by decide +kernel
theorem d_Ru_writeRange_5 : decode b_Ru_writeRange 5 = .ok (.sipush 255, 3) := by decide +kernel
theorem d_Ru_writeRange_8 : decode b_Ru_writeRange 8 = .ok (.if_icmp .ne 10, 3) := by decide +kernel
theorem d_Ru_writeRange_11 : decode b_Ru_writeRange 11 = .ok (.aload_n 0, 1) := by decide +kernel
theorem d_Ru_writeRange_12 : decode b_Ru_writeRange 12 = .ok (.bipush 42, 2) := by decide +kernel
theorem d_Ru_writeRange_14 : decode b_Ru_writeRange 14 = .ok (.invokevirtual 52, 3) := by decide +kernel
theorem d_Ru_writeRange_17 : decode b_Ru_writeRange 17 = .ok (.return_, 1) := by decide +kernel
theorem d_Ru_writeRange_18 : decode b_Ru_writeRange 18 = .ok (.aload_n 0, 1) := by decide +kernel
theorem d_Ru_writeRange_19 : decode b_Ru_writeRange 19 = .ok (.iload_n 1, 1) := by decide +kernel
theorem d_Ru_writeRange_20 : decode b_Ru_writeRange 20 = .ok (.invokevirtual 64, 3) := by decide +kernel
theorem d_Ru_writeRange_23 : decode b_Ru_writeRange 23 = .ok (.iload_n 1, 1) := by decide +kernel
theorem d_Ru_writeRange_24 : decode b_Ru_writeRange 24 = .ok (.iload_n 2, 1) := by decide +kernel
theorem d_Ru_writeRange_25 : decode b_Ru_writeRange 25 = .ok (.if_icmp .eq 14, 3) := by decide +kernel
theorem d_Ru_writeRange_28 : decode b_Ru_writeRange 28 = .ok (.aload_n 0, 1) := by decide +kernel
theorem d_Ru_writeRange_29 : decode b_Ru_writeRange 29 = .ok (.bipush 45, 2) := by decide +kernel
theorem d_Ru_writeRange_31 : decode b_Ru_writeRange 31 = .ok (.invokevirtual 52, 3) := by decide +kernel
theorem d_Ru_writeRange_34 : decode b_Ru_writeRange 34 = .ok (.aload_n 0, 1) := by decide +kernel
theorem d_Ru_writeRange_35 : decode b_Ru_writeRange 35 = .ok (.iload_n 2, 1) := by decide +kernel
theorem d_Ru_writeRange_36 : decode b_Ru_writeRange 36 = .ok (.invokevirtual 64, 3) := by decide +kernel
theorem d_Ru_writeRange_39 : decode b_Ru_writeRange 39 = .ok (.return_, 1) := by decide +kernel
theorem d_Ru_matches_0 : decode b_Ru_matches 0 = .ok (.aload_n 0, 1) := by decide +kernel
theorem d_Ru_matches_1 : decode b_Ru_matches 1 = .ok (.getfield 15, 3) := by decide +kernel
theorem d_Ru_matches_4 : decode b_Ru_matches 4 = .ok (.iconst 2, 1) := by decide +kernel
theorem d_Ru_matches_5 : decode b_Ru_matches 5 = .ok (.if_icmp .eq 11, 3) := by decide +kernel
theorem d_Ru_matches_8 : decode b_Ru_matches 8 = .ok (.aload_n 0, 1) := by decide +kernel
theorem d_Ru_matches_9 : decode b_Ru_matches 9 = .ok (.getfield 15, 3) := by decide +kernel
theorem d_Ru_matches_12 : decode b_Ru_matches 12 = .ok (.iload_n 1, 1) := by decide +kernel
theorem d_Ru_matches_13 : decode b_Ru_matches 13 = .ok (.if_icmp .ne 61, 3) := by decide +kernel
theorem d_Ru_matches_16 : decode b_Ru_matches 16 = .ok (.aload_n 0, 1) := by decide +kernel
theorem d_Ru_matches_17 : decode b_Ru_matches 17 = .ok (.getfield 18, 3) := by decide +kernel
theorem d_Ru_matches_20 : decode b_Ru_matches 20 = .ok (.iconst 3, 1) := by decide +kernel
theorem d_Ru_matches_21 : decode b_Ru_matches 21 = .ok (.if_icmp .eq 11, 3) := by decide +kernel
theorem d_Ru_matches_24 : decode b_Ru_matches 24 = .ok (.aload_n 0, 1) := by decide +kernel
theorem d_Ru_matches_25 : decode b_Ru_matches 25 = .ok (.getfield 18, 3) := by decide +kernel
theorem d_Ru_matches_28 : decode b_Ru_matches 28 = .ok (.iload_n 2, 1) := by decide +kernel
theorem d_Ru_matches_29 : decode b_Ru_matches 29 = .ok (.if_icmp .ne 45, 3) := by decide +kernel
theorem d_Ru_matches_32 : decode b_Ru_matches 32 = .ok (.aload_n 0, 1) := by decide +kernel
theorem d_Ru_matches_33 : decode b_Ru_matches 33 = .ok (.iconst 0, 1) := by decide +kernel
theorem d_Ru_matches_34 : decode b_Ru_matches 34 = .ok (.iload_n 3, 1) := by decide +kernel
theorem d_Ru_matches_35 : decode b_Ru_matches 35 = .ok (.invokestatic 28, 3) := by decide +kernel
theorem d_Ru_matches_38 : decode b_Ru_matches 38 = .ok (.invokevirtual 32, 3) := by decide +kernel
theorem d_Ru_matches_41 : decode b_Ru_matches 41 = .ok (.ifCond .eq 33, 3) := by decide +kernel
theorem d_Ru_matches_44 : decode b_Ru_matches 44 = .ok (.aload_n 0, 1) := by decide +kernel
theorem d_Ru_matches_45 : decode b_Ru_matches 45 = .ok (.iconst 1, 1) := by decide +kernel
theorem d_Ru_matches_46 : decode b_Ru_matches 46 = .ok (.iload 4, 2) := by decide +kernel
theorem d_Ru_matches_48 : decode b_Ru_matches 48 = .ok (.invokestatic 28, 3) := by decide +kernel
theorem d_Ru_matches_51 : decode b_Ru_matches 51 = .ok (.invokevirtual 32, 3) := by decide +kernel
theorem d_Ru_matches_54 : decode b_Ru_matches 54 = .ok (.ifCond .eq 20, 3) := by decide +kernel
theorem d_Ru_matches_57 : decode b_Ru_matches 57 = .ok (.aload_n 0, 1) := by decide +kernel
theorem d_Ru_matches_58 : decode b_Ru_matches 58 = .ok (.iconst 2, 1) := by decide +kernel
theorem d_Ru_matches_59 : decode b_Ru_matches 59 = .ok (.iload 4, 2) := by decide +kernel
theorem d_Ru_matches_61 : decode b_Ru_matches 61 = .ok (.invokestatic 36, 3) := by decide +kernel
theorem d_Ru_matches_64 : decode b_Ru_matches 64 = .ok (.invokevirtual 32, 3) := by decide +kernel
theorem d_Ru_matches_67 : decode b_Ru_matches 67 = .ok (.ifCond .eq 7, 3) := by decide +kernel
theorem d_Ru_matches_70 : decode b_Ru_matches 70 = .ok (.iconst 1, 1) := by decide +kernel
theorem d_Ru_matches_71 : decode b_Ru_matches 71 = .ok (.goto 4, 3) := by decide +kernel
theorem d_Ru_matches_74 : decode b_Ru_matches 74 = .ok (.iconst 0, 1) := by decide +kernel
theorem d_Ru_matches_75 : decode b_Ru_matches 75 = .ok (.ireturn, 1) := by decide +kernel
theorem d_Ru_contains_0 : decode b_Ru_contains 0 = .ok (.aload_n 0, 1) := by decide +kernel
theorem d_Ru_contains_1 : decode b_Ru_contains 1 = .ok (.getfield 21, 3) := by decide +kernel
theorem d_Ru_contains_4 : decode b_Ru_contains 4 = .ok (.iload_n 1, 1) := by decide +kernel
theorem d_Ru_contains_5 : decode b_Ru_contains 5 = .ok (.iaload, 1) := by decide +kernel
theorem d_Ru_contains_6 : decode b_Ru_contains 6 = .ok (.iload_n 2, 1) := by decide +kernel
theorem d_Ru_contains_7 : decode b_Ru_contains 7 = .ok (.if_icmp .gt 17, 3) := by decide +kernel
theorem d_Ru_contains_10 : decode b_Ru_contains 10 = .ok (.iload_n 2, 1) := by decide +kernel
theorem d_Ru_contains_11 : decode b_Ru_contains 11 = .ok (.aload_n 0, 1) := by decide +kernel
theorem d_Ru_contains_12 : decode b_Ru_contains 12 = .ok (.getfield 25, 3) := by decide +kernel
theorem d_Ru_contains_15 : decode b_Ru_contains 15 = .ok (.iload_n 1, 1) := by decide +kernel
theorem d_Ru_contains_16 : decode b_Ru_contains 16 = .ok (.iaload, 1) := by decide +kernel
theorem d_Ru_contains_17 : decode b_Ru_contains 17 = .ok (.if_icmp .gt 7, 3) := by decide +kernel
theorem d_Ru_contains_20 : decode b_Ru_contains 20 = .ok (.iconst 1, 1) := by decide +kernel
theorem d_Ru_contains_21 : decode b_Ru_contains 21 = .ok (.goto 4, 3) := by decide +kernel
theorem d_Ru_contains_24 : decode b_Ru_contains 24 = .ok (.iconst 0, 1) := by decide +kernel
theorem d_Ru_contains_25 : decode b_Ru_contains 25 = .ok (.ireturn, 1) := by decide +kernel
