theorem d_Pg_passReport_13 : decode b_Pg_passReport 13 = .ok (.bipush (-4), 2) := by decide +kernel
theorem d_Pg_passReport_15 : decode b_Pg_passReport 15 = .ok (.ireturn, 1) := by decide +kernel
theorem d_Pg_passReport_16 : decode b_Pg_passReport 16 = .ok (.aload_n 0, 1) := by decide +kernel
theorem d_Pg_passReport_17 : decode b_Pg_passReport 17 = .ok (.iload_n 1, 1) := by decide +kernel
theorem d_Pg_passReport_18 : decode b_Pg_passReport 18 = .ok (.aload_n 0, 1) := by decide +kernel
theorem d_Pg_passReport_19 : decode b_Pg_passReport 19 = .ok (.getfield 65, 3) := by decide +kernel
theorem d_Pg_passReport_22 : decode b_Pg_passReport 22 = .ok (.invokestatic 230, 3) := by decide +kernel
theorem d_Pg_passReport_25 : decode b_Pg_passReport 25 = .ok (.invokevirtual 155, 3) := by decide +kernel
theorem d_Pg_passReport_28 : decode b_Pg_passReport 28 = .ok (.istore_n 2, 1) := by decide +kernel
theorem d_Pg_passReport_29 : decode b_Pg_passReport 29 = .ok (.iload_n 2, 1) := by decide +kernel
theorem d_Pg_passReport_30 : decode b_Pg_passReport 30 = .ok (.iconst (-1), 1) := by decide +kernel
theorem d_Pg_passReport_31 : decode b_Pg_passReport 31 = .ok (.if_icmp .eq 20, 3) := by decide +kernel
theorem d_Pg_passReport_34 : decode b_Pg_passReport 34 = .ok (.aload_n 0, 1) := by decide +kernel
theorem d_Pg_passReport_35 : decode b_Pg_passReport 35 = .ok (.getfield 43, 3) := by decide +kernel
theorem d_Pg_passReport_38 : decode b_Pg_passReport 38 = .ok (.iload_n 1, 1) := by decide +kernel
theorem d_Pg_passReport_39 : decode b_Pg_passReport 39 = .ok (.iload_n 2, 1) := by decide +kernel
theorem d_Pg_passReport_40 : decode b_Pg_passReport 40 = .ok (.aload_n 0, 1) := by decide +kernel
theorem d_Pg_passReport_41 : decode b_Pg_passReport 41 = .ok (.getfield 69, 3) := by decide +kernel
theorem d_Pg_passReport_44 : decode b_Pg_passReport 44 = .ok (.invokevirtual 186, 3) := by decide +kernel
theorem d_Pg_passReport_47 : decode b_Pg_passReport 47 = .ok (.iconst (-1), 1) := by decide +kernel
theorem d_Pg_passReport_48 : decode b_Pg_passReport 48 = .ok (.if_icmp .ne 6, 3) := by decide +kernel
theorem d_Pg_passReport_51 : decode b_Pg_passReport 51 = .ok (.bipush (-4), 2) := by decide +kernel
theorem d_Pg_passReport_53 : decode b_Pg_passReport 53 = .ok (.ireturn, 1) := by decide +kernel
theorem d_Pg_passReport_54 : decode b_Pg_passReport 54 = .ok (.aload_n 0, 1) := by decide +kernel
theorem d_Pg_passReport_55 : decode b_Pg_passReport 55 = .ok (.iload_n 2, 1) := by decide +kernel
theorem d_Pg_passReport_56 : decode b_Pg_passReport 56 = .ok (.aload_n 0, 1) := by decide +kernel
theorem d_Pg_passReport_57 : decode b_Pg_passReport 57 = .ok (.getfield 69, 3) := by decide +kernel
theorem d_Pg_passReport_60 : decode b_Pg_passReport 60 = .ok (.invokevirtual 246, 3) := by decide +kernel
theorem d_Pg_passReport_63 : decode b_Pg_passReport 63 = .ok (.ireturn, 1) := by decide +kernel
theorem d_Pg_unseal_0 : decode b_Pg_unseal 0 = .ok (.iload_n 2, 1) := by decide +kernel
theorem d_Pg_unseal_1 : decode b_Pg_unseal 1 = .ok (.iconst 1, 1) := by decide +kernel
theorem d_Pg_unseal_2 : decode b_Pg_unseal 2 = .ok (.if_icmp .lt 28, 3) := by decide +kernel
theorem d_Pg_unseal_5 : decode b_Pg_unseal 5 = .ok (.iload_n 2, 1) := by decide +kernel
theorem d_Pg_unseal_6 : decode b_Pg_unseal 6 = .ok (.sipush 9999, 3) := by decide +kernel
theorem d_Pg_unseal_9 : decode b_Pg_unseal 9 = .ok (.if_icmp .gt 21, 3) := by decide +kernel
theorem d_Pg_unseal_12 : decode b_Pg_unseal 12 = .ok (.iload 4, 2) := by decide +kernel
theorem d_Pg_unseal_14 : decode b_Pg_unseal 14 = .ok (.invokestatic 144, 3) := by decide +kernel
theorem d_Pg_unseal_17 : decode b_Pg_unseal 17 = .ok (.ifCond .eq 13, 3) := by decide +kernel
theorem d_Pg_unseal_20 : decode b_Pg_unseal 20 = .ok (.iload 5, 2) := by decide +kernel
theorem d_Pg_unseal_22 : decode b_Pg_unseal 22 = .ok (.bipush 15, 2) := by decide +kernel
theorem d_Pg_unseal_24 : decode b_Pg_unseal 24 = .ok (.invokestatic 147, 3) := by decide +kernel
theorem d_Pg_unseal_27 : decode b_Pg_unseal 27 = .ok (.ifCond .ne 5, 3) := by decide +kernel
theorem d_Pg_unseal_30 : decode b_Pg_unseal 30 = .ok (.iconst (-1), 1) := by decide +kernel
theorem d_Pg_unseal_31 : decode b_Pg_unseal 31 = .ok (.ireturn, 1) := by decide +kernel
theorem d_Pg_unseal_32 : decode b_Pg_unseal 32 = .ok (.iload_n 1, 1) := by decide +kernel
theorem d_Pg_unseal_33 : decode b_Pg_unseal 33 = .ok (.aload_n 0, 1) := by decide +kernel
theorem d_Pg_unseal_34 : decode b_Pg_unseal 34 = .ok (.getfield 54, 3) := by decide +kernel
theorem d_Pg_unseal_37 : decode b_Pg_unseal 37 = .ok (.getfield 240, 3) := by decide +kernel
theorem d_Pg_unseal_40 : decode b_Pg_unseal 40 = .ok (.if_icmp .ne 20, 3) := by decide +kernel
theorem d_Pg_unseal_43 : decode b_Pg_unseal 43 = .ok (.aload_n 0, 1) := by decide +kernel
theorem d_Pg_unseal_44 : decode b_Pg_unseal 44 = .ok (.aload_n 0, 1) := by decide +kernel
theorem d_Pg_unseal_45 : decode b_Pg_unseal 45 = .ok (.aload_n 0, 1) := by decide +kernel
theorem d_Pg_unseal_46 : decode b_Pg_unseal 46 = .ok (.getfield 54, 3) := by decide +kernel
theorem d_Pg_unseal_49 : decode b_Pg_unseal 49 = .ok (.iload_n 2, 1) := by decide +kernel
theorem d_Pg_unseal_50 : decode b_Pg_unseal 50 = .ok (.iload_n 3, 1) := by decide +kernel
theorem d_Pg_unseal_51 : decode b_Pg_unseal 51 = .ok (.iload 4, 2) := by decide +kernel
theorem d_Pg_unseal_53 : decode b_Pg_unseal 53 = .ok (.invokevirtual 255, 3) := by decide +kernel
theorem d_Pg_unseal_56 : decode b_Pg_unseal 56 = .ok (.invokevirtual 176, 3) := by decide +kernel
theorem d_Pg_unseal_59 : decode b_Pg_unseal 59 = .ok (.ireturn, 1) := by decide +kernel
theorem d_Pg_unseal_60 : decode b_Pg_unseal 60 = .ok (.iload_n 1, 1) := by decide +kernel
theorem d_Pg_unseal_61 : decode b_Pg_unseal 61 = .ok (.aload_n 0, 1) := by decide +kernel
theorem d_Pg_unseal_62 : decode b_Pg_unseal 62 = .ok (.getfield 62, 3) := by decide +kernel
theorem d_Pg_unseal_65 : decode b_Pg_unseal 65 = .ok (.getfield 240, 3) := by decide +kernel
theorem d_Pg_unseal_68 : decode b_Pg_unseal 68 = .ok (.if_icmp .ne 34, 3) := by decide +kernel
theorem d_Pg_unseal_71 : decode b_Pg_unseal 71 = .ok (.aload_n 0, 1) := by decide +kernel
theorem d_Pg_unseal_72 : decode b_Pg_unseal 72 = .ok (.getfield 62, 3) := by decide +kernel
theorem d_Pg_unseal_75 : decode b_Pg_unseal 75 = .ok (.getfield 259, 3) := by decide +kernel
theorem d_Pg_unseal_78 : decode b_Pg_unseal 78 = .ok (.aload_n 0, 1) := by decide +kernel
theorem d_Pg_unseal_79 : decode b_Pg_unseal 79 = .ok (.getfield 72, 3) := by decide +kernel
theorem d_Pg_unseal_82 : decode b_Pg_unseal 82 = .ok (.if_icmp .le 20, 3) := by decide +kernel
theorem d_Pg_unseal_85 : decode b_Pg_unseal 85 = .ok (.aload_n 0, 1) := by decide +kernel
theorem d_Pg_unseal_86 : decode b_Pg_unseal 86 = .ok (.aload_n 0, 1) := by decide +kernel
theorem d_Pg_unseal_87 : decode b_Pg_unseal 87 = .ok (.aload_n 0, 1) := by decide +kernel
theorem d_Pg_unseal_88 : decode b_Pg_unseal 88 = .ok (.getfield 62, 3) := by decide +kernel
theorem d_Pg_unseal_91 : decode b_Pg_unseal 91 = .ok (.iload_n 2, 1) := by decide +kernel
theorem d_Pg_unseal_92 : decode b_Pg_unseal 92 = .ok (.iload_n 3, 1) := by decide +kernel
theorem d_Pg_unseal_93 : decode b_Pg_unseal 93 = .ok (.iload 4, 2) := by decide +kernel
theorem d_Pg_unseal_95 : decode b_Pg_unseal 95 = .ok (.invokevirtual 255, 3) := by decide +kernel
theorem d_Pg_unseal_98 : decode b_Pg_unseal 98 = .ok (.invokevirtual 176, 3) := by decide +kernel
theorem d_Pg_unseal_101 : decode b_Pg_unseal 101 = .ok (.ireturn, 1) := by decide +kernel
theorem d_Pg_unseal_102 : decode b_Pg_unseal 102 = .ok (.aload_n 0, 1) := by decide +kernel
theorem d_Pg_unseal_103 : decode b_Pg_unseal 103 = .ok (.bipush (-10), 2) := by decide +kernel
theorem d_Pg_unseal_105 : decode b_Pg_unseal 105 = .ok (.invokevirtual 176, 3) := by decide +kernel
theorem d_Pg_unseal_108 : decode b_Pg_unseal 108 = .ok (.ireturn, 1) := by decide +kernel
theorem d_Pg_passSealed_0 : decode b_Pg_passSealed 0 = .ok (.aload_n 1, 1) := by decide +kernel
theorem d_Pg_passSealed_1 : decode b_Pg_passSealed 1 = .ok (.iload_n 2, 1) := by decide +kernel
theorem d_Pg_passSealed_2 : decode b_Pg_passSealed 2 = .ok (.invokevirtual 262, 3) := by decide +kernel
theorem d_Pg_passSealed_5 : decode b_Pg_passSealed 5 = .ok (.ifCond .eq 6, 3) := by decide +kernel
theorem d_Pg_passSealed_8 : decode b_Pg_passSealed 8 = .ok (.bipush (-8), 2) := by decide +kernel
theorem d_Pg_passSealed_10 : decode b_Pg_passSealed 10 = .ok (.ireturn, 1) := by decide +kernel
theorem d_Pg_passSealed_11 : decode b_Pg_passSealed 11 = .ok (.iload_n 3, 1) := by decide +kernel
theorem d_Pg_passSealed_12 : decode b_Pg_passSealed 12 = .ok (.ifCond .ne 6, 3) := by decide +kernel
theorem d_Pg_passSealed_15 : decode b_Pg_passSealed 15 = .ok (.bipush (-9), 2) := by decide +kernel
theorem d_Pg_passSealed_17 : decode b_Pg_passSealed 17 = .ok (.ireturn, 1) := by decide +kernel
theorem d_Pg_passSealed_18 : decode b_Pg_passSealed 18 = .ok (.aload_n 1, 1) := by decide +kernel
theorem d_Pg_passSealed_19 : decode b_Pg_passSealed 19 = .ok (.iload_n 2, 1) := by decide +kernel
theorem d_Pg_passSealed_20 : decode b_Pg_passSealed 20 = .ok (.invokevirtual 265, 3) := by decide +kernel
theorem d_Pg_passSealed_23 : decode b_Pg_passSealed 23 = .ok (.aload_n 0, 1) := by decide +kernel
theorem d_Pg_passSealed_24 : decode b_Pg_passSealed 24 = .ok (.getfield 65, 3) := by decide +kernel
theorem d_Pg_passSealed_27 : decode b_Pg_passSealed 27 = .ok (.invokestatic 183, 3) := by decide +kernel
theorem d_Pg_passSealed_30 : decode b_Pg_passSealed 30 = .ok (.ifCond .eq 13, 3) := by decide +kernel
theorem d_Pg_passSealed_33 : decode b_Pg_passSealed 33 = .ok (.aload_n 0, 1) := by decide +kernel
theorem d_Pg_passSealed_34 : decode b_Pg_passSealed 34 = .ok (.getfield 69, 3) := by decide +kernel
theorem d_Pg_passSealed_37 : decode b_Pg_passSealed 37 = .ok (.invokestatic 180, 3) := by decide +kernel
theorem d_Pg_passSealed_40 : decode b_Pg_passSealed 40 = .ok (.ifCond .ne 6, 3) := by decide +kernel
theorem d_Pg_passSealed_43 : decode b_Pg_passSealed 43 = .ok (.bipush (-5), 2) := by decide +kernel
theorem d_Pg_passSealed_45 : decode b_Pg_passSealed 45 = .ok (.ireturn, 1) := by decide +kernel
theorem d_Pg_passSealed_46 : decode b_Pg_passSealed 46 = .ok (.aload_n 0, 1) := by decide +kernel
theorem d_Pg_passSealed_47 : decode b_Pg_passSealed 47 = .ok (.getfield 26, 3) := by decide +kernel
theorem d_Pg_passSealed_50 : decode b_Pg_passSealed 50 = .ok (.iconst 0, 1) := by decide +kernel
theorem d_Pg_passSealed_51 : decode b_Pg_passSealed 51 = .ok (.iload 4, 2) := by decide +kernel
theorem d_Pg_passSealed_53 : decode b_Pg_passSealed 53 = .ok (.aload_n 0, 1) := by decide +kernel
theorem d_Pg_passSealed_54 : decode b_Pg_passSealed 54 = .ok (.getfield 65, 3) := by decide +kernel
theorem d_Pg_passSealed_57 : decode b_Pg_passSealed 57 = .ok (.aload_n 0, 1) := by decide +kernel
theorem d_Pg_passSealed_58 : decode b_Pg_passSealed 58 = .ok (.getfield 69, 3) := by decide +kernel
theorem d_Pg_passSealed_61 : decode b_Pg_passSealed 61 = .ok (.invokevirtual 204, 3) := by decide +kernel
theorem d_Pg_passSealed_64 : decode b_Pg_passSealed 64 = .ok (.iconst 2, 1) := by decide +kernel
theorem d_Pg_passSealed_65 : decode b_Pg_passSealed 65 = .ok (.if_icmp .eq 6, 3) := by decide +kernel
theorem d_Pg_passSealed_68 : decode b_Pg_passSealed 68 = .ok (.bipush (-4), 2) := by decide +kernel
theorem d_Pg_passSealed_70 : decode b_Pg_passSealed 70 = .ok (.ireturn, 1) := by decide +kernel
theorem d_Pg_passSealed_71 : decode b_Pg_passSealed 71 = .ok (.aload_n 0, 1) := by decide +kernel
theorem d_Pg_passSealed_72 : decode b_Pg_passSealed 72 = .ok (.aload_n 0, 1) := by decide +kernel
theorem d_Pg_passSealed_73 : decode b_Pg_passSealed 73 = .ok (.getfield 65, 3) := by decide +kernel
theorem d_Pg_passSealed_76 : decode b_Pg_passSealed 76 = .ok (.aload_n 0, 1) := by decide +kernel
theorem d_Pg_passSealed_77 : decode b_Pg_passSealed 77 = .ok (.getfield 69, 3) := by decide +kernel
theorem d_Pg_passSealed_80 : decode b_Pg_passSealed 80 = .ok (.invokevirtual 246, 3) := by decide +kernel
theorem d_Pg_passSealed_83 : decode b_Pg_passSealed 83 = .ok (.ireturn, 1) := by decide +kernel
theorem d_Pg_rekey_0 : decode b_Pg_rekey 0 = .ok (.aload_n 0, 1) := by decide +kernel
theorem d_Pg_rekey_1 : decode b_Pg_rekey 1 = .ok (.getfield 62, 3) := by decide +kernel
theorem d_Pg_rekey_4 : decode b_Pg_rekey 4 = .ok (.astore_n 1, 1) := by decide +kernel
theorem d_Pg_rekey_5 : decode b_Pg_rekey 5 = .ok (.aload_n 0, 1) := by decide +kernel
theorem d_Pg_rekey_6 : decode b_Pg_rekey 6 = .ok (.aload_n 0, 1) := by decide +kernel
theorem d_Pg_rekey_7 : decode b_Pg_rekey 7 = .ok (.getfield 54, 3) := by decide +kernel
theorem d_Pg_rekey_10 : decode b_Pg_rekey 10 = .ok (.putfield 62, 3) := by decide +kernel
theorem d_Pg_rekey_13 : decode b_Pg_rekey 13 = .ok (.aload_n 0, 1) := by decide +kernel
theorem d_Pg_rekey_14 : decode b_Pg_rekey 14 = .ok (.getfield 62, 3) := by decide +kernel
theorem d_Pg_rekey_17 : decode b_Pg_rekey 17 = .ok (.aload_n 0, 1) := by decide +kernel
theorem d_Pg_rekey_18 : decode b_Pg_rekey 18 = .ok (.getfield 72, 3) := by decide +kernel
theorem d_Pg_rekey_21 : decode b_Pg_rekey 21 = .ok (.bipush 20, 2) := by decide +kernel
theorem d_Pg_rekey_23 : decode b_Pg_rekey 23 = .ok (.iadd, 1) := by decide +kernel
theorem d_Pg_rekey_24 : decode b_Pg_rekey 24 = .ok (.putfield 259, 3) := by decide +kernel
theorem d_Pg_rekey_27 : decode b_Pg_rekey 27 = .ok (.aload_n 0, 1) := by decide +kernel
theorem d_Pg_rekey_28 : decode b_Pg_rekey 28 = .ok (.aload_n 1, 1) := by decide +kernel
theorem d_Pg_rekey_29 : decode b_Pg_rekey 29 = .ok (.putfield 54, 3) := by decide +kernel
theorem d_Pg_rekey_32 : decode b_Pg_rekey 32 = .ok (.aload_n 0, 1) := by decide +kernel
theorem d_Pg_rekey_33 : decode b_Pg_rekey 33 = .ok (.getfield 54, 3) := by decide +kernel
theorem d_Pg_rekey_36 : decode b_Pg_rekey 36 = .ok (.aload_n 0, 1) := by decide +kernel
theorem d_Pg_rekey_37 : decode b_Pg_rekey 37 = .ok (.getfield 62, 3) := by decide +kernel
theorem d_Pg_rekey_40 : decode b_Pg_rekey 40 = .ok (.getfield 240, 3) := by decide +kernel
theorem d_Pg_rekey_43 : decode b_Pg_rekey 43 = .ok (.iconst 1, 1) := by decide +kernel
theorem d_Pg_rekey_44 : decode b_Pg_rekey 44 = .ok (.iadd, 1) := by decide +kernel
theorem d_Pg_rekey_45 : decode b_Pg_rekey 45 = .ok (.invokevirtual 58, 3) := by decide +kernel
theorem d_Pg_rekey_48 : decode b_Pg_rekey 48 = .ok (.aload_n 0, 1) := by decide +kernel
theorem d_Pg_rekey_49 : decode b_Pg_rekey 49 = .ok (.getfield 54, 3) := by decide +kernel
theorem d_Pg_rekey_52 : decode b_Pg_rekey 52 = .ok (.getfield 240, 3) := by decide +kernel
theorem d_Pg_rekey_55 : decode b_Pg_rekey 55 = .ok (.ireturn, 1) := by decide +kernel
theorem d_Pg_tick_0 : decode b_Pg_tick 0 = .ok (.iload_n 1, 1) := by decide +kernel
theorem d_Pg_tick_1 : decode b_Pg_tick 1 = .ok (.iconst 1, 1) := by decide +kernel
theorem d_Pg_tick_2 : decode b_Pg_tick 2 = .ok (.if_icmp .lt 9, 3) := by decide +kernel
theorem d_Pg_tick_5 : decode b_Pg_tick 5 = .ok (.iload_n 1, 1) := by decide +kernel
theorem d_Pg_tick_6 : decode b_Pg_tick 6 = .ok (.bipush 100, 2) := by decide +kernel
theorem d_Pg_tick_8 : decode b_Pg_tick 8 = .ok (.if_icmp .le 5, 3) := by decide +kernel
theorem d_Pg_tick_11 : decode b_Pg_tick 11 = .ok (.iconst (-1), 1) := by decide +kernel
theorem d_Pg_tick_12 : decode b_Pg_tick 12 = .ok (.ireturn, 1) := by decide +kernel
theorem d_Pg_tick_13 : decode b_Pg_tick 13 = .ok (.aload_n 0, 1) := by decide +kernel
theorem d_Pg_tick_14 : decode b_Pg_tick 14 = .ok (.dup, 1) := by decide +kernel
theorem d_Pg_tick_15 : decode b_Pg_tick 15 = .ok (.getfield 72, 3) := by decide +kernel
theorem d_Pg_tick_18 : decode b_Pg_tick 18 = .ok (.iload_n 1, 1) := by decide +kernel
theorem d_Pg_tick_19 : decode b_Pg_tick 19 = .ok (.iadd, 1) := by decide +kernel
theorem d_Pg_tick_20 : decode b_Pg_tick 20 = .ok (.putfield 72, 3) := by decide +kernel
theorem d_Pg_tick_23 : decode b_Pg_tick 23 = .ok (.aload_n 0, 1) := by decide +kernel
theorem d_Pg_tick_24 : decode b_Pg_tick 24 = .ok (.getfield 43, 3) := by decide +kernel
theorem d_Pg_tick_27 : decode b_Pg_tick 27 = .ok (.aload_n 0, 1) := by decide +kernel
theorem d_Pg_tick_28 : decode b_Pg_tick 28 = .ok (.getfield 72, 3) := by decide +kernel
theorem d_Pg_tick_31 : decode b_Pg_tick 31 = .ok (.invokevirtual 268, 3) := by decide +kernel
theorem d_Pg_tick_34 : decode b_Pg_tick 34 = .ok (.aload_n 0, 1) := by decide +kernel
theorem d_Pg_tick_35 : decode b_Pg_tick 35 = .ok (.getfield 72, 3) := by decide +kernel
theorem d_Pg_tick_38 : decode b_Pg_tick 38 = .ok (.ireturn, 1) := by decide +kernel
theorem d_Pg_emission_0 : decode b_Pg_emission 0 = .ok (.aload_n 0, 1) := by decide +kernel
theorem d_Pg_emission_1 : decode b_Pg_emission 1 = .ok (.getfield 75, 3) := by decide +kernel
theorem d_Pg_emission_4 : decode b_Pg_emission 4 = .ok (.ifCond .eq 16, 3) := by decide +kernel
theorem d_Pg_emission_7 : decode b_Pg_emission 7 = .ok (.iload_n 1, 1) := by decide +kernel
theorem d_Pg_emission_8 : decode b_Pg_emission 8 = .ok (.ifCond .lt 12, 3) := by decide +kernel
theorem d_Pg_emission_11 : decode b_Pg_emission 11 = .ok (.iload_n 1, 1) := by decide +kernel
theorem d_Pg_emission_12 : decode b_Pg_emission 12 = .ok (.aload_n 0, 1) := by decide +kernel
theorem d_Pg_emission_13 : decode b_Pg_emission 13 = .ok (.getfield 47, 3) := by decide +kernel
theorem d_Pg_emission_16 : decode b_Pg_emission 16 = .ok (.arraylength, 1) := by decide +kernel
theorem d_Pg_emission_17 : decode b_Pg_emission 17 = .ok (.if_icmp .lt 5, 3) := by decide +kernel
theorem d_Pg_emission_20 : decode b_Pg_emission 20 = .ok (.iconst (-1), 1) := by decide +kernel
theorem d_Pg_emission_21 : decode b_Pg_emission 21 = .ok (.ireturn, 1) := by decide +kernel
theorem d_Pg_emission_22 : decode b_Pg_emission 22 = .ok (.aload_n 0, 1) := by decide +kernel
theorem d_Pg_emission_23 : decode b_Pg_emission 23 = .ok (.getfield 47, 3) := by decide +kernel
theorem d_Pg_emission_26 : decode b_Pg_emission 26 = .ok (.iload_n 1, 1) := by decide +kernel
theorem d_Pg_emission_27 : decode b_Pg_emission 27 = .ok (.iaload, 1) := by decide +kernel
theorem d_Pg_emission_28 : decode b_Pg_emission 28 = .ok (.ireturn, 1) := by decide +kernel
theorem d_Pg_flow_0 : decode b_Pg_flow 0 = .ok (.aload_n 0, 1) := by decide +kernel
theorem d_Pg_flow_1 : decode b_Pg_flow 1 = .ok (.getfield 43, 3) := by decide +kernel
theorem d_Pg_flow_4 : decode b_Pg_flow 4 = .ok (.iload_n 1, 1) := by decide +kernel
theorem d_Pg_flow_5 : decode b_Pg_flow 5 = .ok (.invokevirtual 271, 3) := by decide +kernel
theorem d_Pg_flow_8 : decode b_Pg_flow 8 = .ok (.ifCond .ne 5, 3) := by decide +kernel
theorem d_Pg_flow_11 : decode b_Pg_flow 11 = .ok (.iconst (-1), 1) := by decide +kernel
theorem d_Pg_flow_12 : decode b_Pg_flow 12 = .ok (.ireturn, 1) := by decide +kernel
theorem d_Pg_flow_13 : decode b_Pg_flow 13 = .ok (.aload_n 0, 1) := by decide +kernel
theorem d_Pg_flow_14 : decode b_Pg_flow 14 = .ok (.getfield 43, 3) := by decide +kernel
theorem d_Pg_flow_17 : decode b_Pg_flow 17 = .ok (.iload_n 1, 1) := by decide +kernel
theorem d_Pg_flow_18 : decode b_Pg_flow 18 = .ok (.invokevirtual 189, 3) := by decide +kernel
theorem d_Pg_flow_21 : decode b_Pg_flow 21 = .ok (.iload_n 2, 1) := by decide +kernel
theorem d_Pg_flow_22 : decode b_Pg_flow 22 = .ok (.invokevirtual 272, 3) := by decide +kernel
theorem d_Pg_flow_25 : decode b_Pg_flow 25 = .ok (.ireturn, 1) := by decide +kernel
theorem d_Pg_count_0 : decode b_Pg_count 0 = .ok (.iload_n 1, 1) := by decide +kernel
theorem d_Pg_count_1 : decode b_Pg_count 1 = .ok (.tableswitch 147 0 11 #[63, 71, 79, 87, 95, 100, 105, 110, 118, 126, 134, 142], 63) := by decide +kernel
theorem d_Pg_count_64 : decode b_Pg_count 64 = .ok (.aload_n 0, 1) := by decide +kernel
theorem d_Pg_count_65 : decode b_Pg_count 65 = .ok (.getfield 26, 3) := by decide +kernel
theorem d_Pg_count_68 : decode b_Pg_count 68 = .ok (.getfield 127, 3) := by decide +kernel
theorem d_Pg_count_71 : decode b_Pg_count 71 = .ok (.ireturn, 1) := by decide +kernel
theorem d_Pg_count_72 : decode b_Pg_count 72 = .ok (.aload_n 0, 1) := by decide +kernel
theorem d_Pg_count_73 : decode b_Pg_count 73 = .ok (.getfield 43, 3) := by decide +kernel
theorem d_Pg_count_76 : decode b_Pg_count 76 = .ok (.getfield 275, 3) := by decide +kernel
theorem d_Pg_count_79 : decode b_Pg_count 79 = .ok (.ireturn, 1) := by decide +kernel
theorem d_Pg_count_80 : decode b_Pg_count 80 = .ok (.aload_n 0, 1) := by decide +kernel
theorem d_Pg_count_81 : decode b_Pg_count 81 = .ok (.getfield 36, 3) := by decide +kernel
theorem d_Pg_count_84 : decode b_Pg_count 84 = .ok (.getfield 276, 3) := by decide +kernel
theorem d_Pg_count_87 : decode b_Pg_count 87 = .ok (.ireturn, 1) := by decide +kernel
theorem d_Pg_count_88 : decode b_Pg_count 88 = .ok (.aload_n 0, 1) := by decide +kernel
theorem d_Pg_count_89 : decode b_Pg_count 89 = .ok (.getfield 43, 3) := by decide +kernel
theorem d_Pg_count_92 : decode b_Pg_count 92 = .ok (.invokevirtual 277, 3) := by decide +kernel
theorem d_Pg_count_95 : decode b_Pg_count 95 = .ok (.ireturn, 1) := by decide +kernel
theorem d_Pg_count_96 : decode b_Pg_count 96 = .ok (.aload_n 0, 1) := by decide +kernel
theorem d_Pg_count_97 : decode b_Pg_count 97 = .ok (.getfield 75, 3) := by decide +kernel
theorem d_Pg_count_100 : decode b_Pg_count 100 = .ok (.ireturn, 1) := by decide +kernel
theorem d_Pg_count_101 : decode b_Pg_count 101 = .ok (.aload_n 0, 1) := by decide +kernel
theorem d_Pg_count_102 : decode b_Pg_count 102 = .ok (.getfield 78, 3) := by decide +kernel
theorem d_Pg_count_105 : decode b_Pg_count 105 = .ok (.ireturn, 1) := by decide +kernel
theorem d_Pg_count_106 : decode b_Pg_count 106 = .ok (.aload_n 0, 1) := by decide +kernel
theorem d_Pg_count_107 : decode b_Pg_count 107 = .ok (.getfield 72, 3) := by decide +kernel
theorem d_Pg_count_110 : decode b_Pg_count 110 = .ok (.ireturn, 1) := by decide +kernel
theorem d_Pg_count_111 : decode b_Pg_count 111 = .ok (.aload_n 0, 1) := by decide +kernel
theorem d_Pg_count_112 : decode b_Pg_count 112 = .ok (.getfield 54, 3) := by decide +kernel
theorem d_Pg_count_115 : decode b_Pg_count 115 = .ok (.getfield 240, 3) := by decide +kernel
theorem d_Pg_count_118 : decode b_Pg_count 118 = .ok (.ireturn, 1) := by decide +kernel
theorem d_Pg_count_119 : decode b_Pg_count 119 = .ok (.aload_n 0, 1) := by decide +kernel
theorem d_Pg_count_120 : decode b_Pg_count 120 = .ok (.getfield 54, 3) := by decide +kernel
theorem d_Pg_count_123 : decode b_Pg_count 123 = .ok (.getfield 237, 3) := by decide +kernel
theorem d_Pg_count_126 : decode b_Pg_count 126 = .ok (.ireturn, 1) := by decide +kernel
theorem d_Pg_count_127 : decode b_Pg_count 127 = .ok (.aload_n 0, 1) := by decide +kernel
theorem d_Pg_count_128 : decode b_Pg_count 128 = .ok (.getfield 54, 3) := by decide +kernel
theorem d_Pg_count_131 : decode b_Pg_count 131 = .ok (.getfield 280, 3) := by decide +kernel
theorem d_Pg_count_134 : decode b_Pg_count 134 = .ok (.ireturn, 1) := by decide +kernel
theorem d_Pg_count_135 : decode b_Pg_count 135 = .ok (.aload_n 0, 1) := by decide +kernel
theorem d_Pg_count_136 : decode b_Pg_count 136 = .ok (.getfield 10, 3) := by decide +kernel
theorem d_Pg_count_139 : decode b_Pg_count 139 = .ok (.getfield 96, 3) := by decide +kernel
theorem d_Pg_count_142 : decode b_Pg_count 142 = .ok (.ireturn, 1) := by decide +kernel
theorem d_Pg_count_143 : decode b_Pg_count 143 = .ok (.aload_n 0, 1) := by decide +kernel
theorem d_Pg_count_144 : decode b_Pg_count 144 = .ok (.getfield 81, 3) := by decide +kernel
theorem d_Pg_count_147 : decode b_Pg_count 147 = .ok (.ireturn, 1) := by decide +kernel
theorem d_Pg_count_148 : decode b_Pg_count 148 = .ok (.iconst (-1), 1) := by decide +kernel
theorem d_Pg_count_149 : decode b_Pg_count 149 = .ok (.ireturn, 1) := by decide +kernel
