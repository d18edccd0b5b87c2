theorem d_Mo_canReach_5 : decode b_Mo_canReach 5 = .ok (.iload_n 1, 1) := by decide +kernel
theorem d_Mo_canReach_6 : decode b_Mo_canReach 6 = .ok (.istore 5, 2) := by decide +kernel
theorem d_Mo_canReach_8 : decode b_Mo_canReach 8 = .ok (.iload 5, 2) := by decide +kernel
theorem d_Mo_canReach_10 : decode b_Mo_canReach 10 = .ok (.iconst 3, 1) := by decide +kernel
theorem d_Mo_canReach_11 : decode b_Mo_canReach 11 = .ok (.if_icmp .gt 62, 3) := by decide +kernel
theorem d_Mo_canReach_14 : decode b_Mo_canReach 14 = .ok (.iload_n 3, 1) := by decide +kernel
theorem d_Mo_canReach_15 : decode b_Mo_canReach 15 = .ok (.iload 4, 2) := by decide +kernel
theorem d_Mo_canReach_17 : decode b_Mo_canReach 17 = .ok (.iadd, 1) := by decide +kernel
theorem d_Mo_canReach_18 : decode b_Mo_canReach 18 = .ok (.iconst 1, 1) := by decide +kernel
theorem d_Mo_canReach_19 : decode b_Mo_canReach 19 = .ok (.isub, 1) := by decide +kernel
theorem d_Mo_canReach_20 : decode b_Mo_canReach 20 = .ok (.sipush 255, 3) := by decide +kernel
theorem d_Mo_canReach_23 : decode b_Mo_canReach 23 = .ok (.if_icmp .ge 12, 3) := by decide +kernel
theorem d_Mo_canReach_26 : decode b_Mo_canReach 26 = .ok (.iload_n 3, 1) := by decide +kernel
theorem d_Mo_canReach_27 : decode b_Mo_canReach 27 = .ok (.iload 4, 2) := by decide +kernel
theorem d_Mo_canReach_29 : decode b_Mo_canReach 29 = .ok (.iadd, 1) := by decide +kernel
theorem d_Mo_canReach_30 : decode b_Mo_canReach 30 = .ok (.iconst 1, 1) := by decide +kernel
theorem d_Mo_canReach_31 : decode b_Mo_canReach 31 = .ok (.isub, 1) := by decide +kernel
theorem d_Mo_canReach_32 : decode b_Mo_canReach 32 = .ok (.goto 6, 3) := by decide +kernel
theorem d_Mo_canReach_35 : decode b_Mo_canReach 35 = .ok (.sipush 255, 3) := by decide +kernel
theorem d_Mo_canReach_38 : decode b_Mo_canReach 38 = .ok (.istore 6, 2) := by decide +kernel
theorem d_Mo_canReach_40 : decode b_Mo_canReach 40 = .ok (.iload_n 3, 1) := by decide +kernel
theorem d_Mo_canReach_41 : decode b_Mo_canReach 41 = .ok (.sipush 255, 3) := by decide +kernel
theorem d_Mo_canReach_44 : decode b_Mo_canReach 44 = .ok (.if_icmp .gt 11, 3) := by decide +kernel
theorem d_Mo_canReach_47 : decode b_Mo_canReach 47 = .ok (.iload 6, 2) := by decide +kernel
theorem d_Mo_canReach_49 : decode b_Mo_canReach 49 = .ok (.iload_n 2, 1) := by decide +kernel
theorem d_Mo_canReach_50 : decode b_Mo_canReach 50 = .ok (.if_icmp .lt 5, 3) := by decide +kernel
theorem d_Mo_canReach_53 : decode b_Mo_canReach 53 = .ok (.iconst 1, 1) := by decide +kernel
theorem d_Mo_canReach_54 : decode b_Mo_canReach 54 = .ok (.ireturn, 1) := by decide +kernel
theorem d_Mo_canReach_55 : decode b_Mo_canReach 55 = .ok (.iload_n 3, 1) := by decide +kernel
theorem d_Mo_canReach_56 : decode b_Mo_canReach 56 = .ok (.bipush 10, 2) := by decide +kernel
theorem d_Mo_canReach_58 : decode b_Mo_canReach 58 = .ok (.imul, 1) := by decide +kernel
theorem d_Mo_canReach_59 : decode b_Mo_canReach 59 = .ok (.istore_n 3, 1) := by decide +kernel
theorem d_Mo_canReach_60 : decode b_Mo_canReach 60 = .ok (.iload 4, 2) := by decide +kernel
theorem d_Mo_canReach_62 : decode b_Mo_canReach 62 = .ok (.bipush 10, 2) := by decide +kernel
theorem d_Mo_canReach_64 : decode b_Mo_canReach 64 = .ok (.imul, 1) := by decide +kernel
theorem d_Mo_canReach_65 : decode b_Mo_canReach 65 = .ok (.istore 4, 2) := by decide +kernel
theorem d_Mo_canReach_67 : decode b_Mo_canReach 67 = .ok (.iinc 5 1, 3) := by decide +kernel
theorem d_Mo_canReach_70 : decode b_Mo_canReach 70 = .ok (.goto (-62), 3) := by decide +kernel
theorem d_Mo_canReach_73 : decode b_Mo_canReach 73 = .ok (.iconst 0, 1) := by decide +kernel
theorem d_Mo_canReach_74 : decode b_Mo_canReach 74 = .ok (.ireturn, 1) := by decide +kernel
theorem d_Mo_withdraw_0 : decode b_Mo_withdraw 0 = .ok (.iload_n 1, 1) := by decide +kernel
theorem d_Mo_withdraw_1 : decode b_Mo_withdraw 1 = .ok (.iconst 1, 1) := by decide +kernel
theorem d_Mo_withdraw_2 : decode b_Mo_withdraw 2 = .ok (.if_icmp .lt 11, 3) := by decide +kernel
theorem d_Mo_withdraw_5 : decode b_Mo_withdraw 5 = .ok (.iload_n 1, 1) := by decide +kernel
theorem d_Mo_withdraw_6 : decode b_Mo_withdraw 6 = .ok (.aload_n 0, 1) := by decide +kernel
theorem d_Mo_withdraw_7 : decode b_Mo_withdraw 7 = .ok (.getfield 119, 3) := by decide +kernel
theorem d_Mo_withdraw_10 : decode b_Mo_withdraw 10 = .ok (.if_icmp .le 5, 3) := by decide +kernel
theorem d_Mo_withdraw_13 : decode b_Mo_withdraw 13 = .ok (.iconst (-1), 1) := by decide +kernel
theorem d_Mo_withdraw_14 : decode b_Mo_withdraw 14 = .ok (.ireturn, 1) := by decide +kernel
theorem d_Mo_withdraw_15 : decode b_Mo_withdraw 15 = .ok (.iload_n 1, 1) := by decide +kernel
theorem d_Mo_withdraw_16 : decode b_Mo_withdraw 16 = .ok (.istore_n 2, 1) := by decide +kernel
theorem d_Mo_withdraw_17 : decode b_Mo_withdraw 17 = .ok (.iload_n 2, 1) := by decide +kernel
theorem d_Mo_withdraw_18 : decode b_Mo_withdraw 18 = .ok (.aload_n 0, 1) := by decide +kernel
theorem d_Mo_withdraw_19 : decode b_Mo_withdraw 19 = .ok (.getfield 119, 3) := by decide +kernel
theorem d_Mo_withdraw_22 : decode b_Mo_withdraw 22 = .ok (.if_icmp .ge 108, 3) := by decide +kernel
theorem d_Mo_withdraw_25 : decode b_Mo_withdraw 25 = .ok (.aload_n 0, 1) := by decide +kernel
theorem d_Mo_withdraw_26 : decode b_Mo_withdraw 26 = .ok (.getfield 17, 3) := by decide +kernel
theorem d_Mo_withdraw_29 : decode b_Mo_withdraw 29 = .ok (.iload_n 2, 1) := by decide +kernel
theorem d_Mo_withdraw_30 : decode b_Mo_withdraw 30 = .ok (.iconst 1, 1) := by decide +kernel
theorem d_Mo_withdraw_31 : decode b_Mo_withdraw 31 = .ok (.isub, 1) := by decide +kernel
theorem d_Mo_withdraw_32 : decode b_Mo_withdraw 32 = .ok (.aload_n 0, 1) := by decide +kernel
theorem d_Mo_withdraw_33 : decode b_Mo_withdraw 33 = .ok (.getfield 17, 3) := by decide +kernel
theorem d_Mo_withdraw_36 : decode b_Mo_withdraw 36 = .ok (.iload_n 2, 1) := by decide +kernel
theorem d_Mo_withdraw_37 : decode b_Mo_withdraw 37 = .ok (.iaload, 1) := by decide +kernel
theorem d_Mo_withdraw_38 : decode b_Mo_withdraw 38 = .ok (.iastore, 1) := by decide +kernel
theorem d_Mo_withdraw_39 : decode b_Mo_withdraw 39 = .ok (.aload_n 0, 1) := by decide +kernel
theorem d_Mo_withdraw_40 : decode b_Mo_withdraw 40 = .ok (.getfield 20, 3) := by decide +kernel
theorem d_Mo_withdraw_43 : decode b_Mo_withdraw 43 = .ok (.iload_n 2, 1) := by decide +kernel
theorem d_Mo_withdraw_44 : decode b_Mo_withdraw 44 = .ok (.iconst 1, 1) := by decide +kernel
theorem d_Mo_withdraw_45 : decode b_Mo_withdraw 45 = .ok (.isub, 1) := by decide +kernel
theorem d_Mo_withdraw_46 : decode b_Mo_withdraw 46 = .ok (.aload_n 0, 1) := by decide +kernel
theorem d_Mo_withdraw_47 : decode b_Mo_withdraw 47 = .ok (.getfield 20, 3) := by decide +kernel
theorem d_Mo_withdraw_50 : decode b_Mo_withdraw 50 = .ok (.iload_n 2, 1) := by decide +kernel
theorem d_Mo_withdraw_51 : decode b_Mo_withdraw 51 = .ok (.iaload, 1) := by decide +kernel
theorem d_Mo_withdraw_52 : decode b_Mo_withdraw 52 = .ok (.iastore, 1) := by decide +kernel
theorem d_Mo_withdraw_53 : decode b_Mo_withdraw 53 = .ok (.aload_n 0, 1) := by decide +kernel
theorem d_Mo_withdraw_54 : decode b_Mo_withdraw 54 = .ok (.getfield 23, 3) := by decide +kernel
theorem d_Mo_withdraw_57 : decode b_Mo_withdraw 57 = .ok (.iload_n 2, 1) := by decide +kernel
theorem d_Mo_withdraw_58 : decode b_Mo_withdraw 58 = .ok (.iconst 1, 1) := by decide +kernel
theorem d_Mo_withdraw_59 : decode b_Mo_withdraw 59 = .ok (.isub, 1) := by decide +kernel
theorem d_Mo_withdraw_60 : decode b_Mo_withdraw 60 = .ok (.aload_n 0, 1) := by decide +kernel
theorem d_Mo_withdraw_61 : decode b_Mo_withdraw 61 = .ok (.getfield 23, 3) := by decide +kernel
theorem d_Mo_withdraw_64 : decode b_Mo_withdraw 64 = .ok (.iload_n 2, 1) := by decide +kernel
theorem d_Mo_withdraw_65 : decode b_Mo_withdraw 65 = .ok (.iaload, 1) := by decide +kernel
theorem d_Mo_withdraw_66 : decode b_Mo_withdraw 66 = .ok (.iastore, 1) := by decide +kernel
theorem d_Mo_withdraw_67 : decode b_Mo_withdraw 67 = .ok (.iconst 0, 1) := by decide +kernel
theorem d_Mo_withdraw_68 : decode b_Mo_withdraw 68 = .ok (.istore_n 3, 1) := by decide +kernel
theorem d_Mo_withdraw_69 : decode b_Mo_withdraw 69 = .ok (.iload_n 3, 1) := by decide +kernel
theorem d_Mo_withdraw_70 : decode b_Mo_withdraw 70 = .ok (.iconst 3, 1) := by decide +kernel
theorem d_Mo_withdraw_71 : decode b_Mo_withdraw 71 = .ok (.if_icmp .ge 53, 3) := by decide +kernel
theorem d_Mo_withdraw_74 : decode b_Mo_withdraw 74 = .ok (.aload_n 0, 1) := by decide +kernel
theorem d_Mo_withdraw_75 : decode b_Mo_withdraw 75 = .ok (.getfield 26, 3) := by decide +kernel
theorem d_Mo_withdraw_78 : decode b_Mo_withdraw 78 = .ok (.iload_n 2, 1) := by decide +kernel
theorem d_Mo_withdraw_79 : decode b_Mo_withdraw 79 = .ok (.iconst 3, 1) := by decide +kernel
theorem d_Mo_withdraw_80 : decode b_Mo_withdraw 80 = .ok (.imul, 1) := by decide +kernel
theorem d_Mo_withdraw_81 : decode b_Mo_withdraw 81 = .ok (.iconst 3, 1) := by decide +kernel
theorem d_Mo_withdraw_82 : decode b_Mo_withdraw 82 = .ok (.isub, 1) := by decide +kernel
theorem d_Mo_withdraw_83 : decode b_Mo_withdraw 83 = .ok (.iload_n 3, 1) := by decide +kernel
theorem d_Mo_withdraw_84 : decode b_Mo_withdraw 84 = .ok (.iadd, 1) := by decide +kernel
theorem d_Mo_withdraw_85 : decode b_Mo_withdraw 85 = .ok (.aload_n 0, 1) := by decide +kernel
theorem d_Mo_withdraw_86 : decode b_Mo_withdraw 86 = .ok (.getfield 26, 3) := by decide +kernel
theorem d_Mo_withdraw_89 : decode b_Mo_withdraw 89 = .ok (.iload_n 2, 1) := by decide +kernel
theorem d_Mo_withdraw_90 : decode b_Mo_withdraw 90 = .ok (.iconst 3, 1) := by decide +kernel
theorem d_Mo_withdraw_91 : decode b_Mo_withdraw 91 = .ok (.imul, 1) := by decide +kernel
theorem d_Mo_withdraw_92 : decode b_Mo_withdraw 92 = .ok (.iload_n 3, 1) := by decide +kernel
theorem d_Mo_withdraw_93 : decode b_Mo_withdraw 93 = .ok (.iadd, 1) := by decide +kernel
theorem d_Mo_withdraw_94 : decode b_Mo_withdraw 94 = .ok (.iaload, 1) := by decide +kernel
theorem d_Mo_withdraw_95 : decode b_Mo_withdraw 95 = .ok (.iastore, 1) := by decide +kernel
theorem d_Mo_withdraw_96 : decode b_Mo_withdraw 96 = .ok (.aload_n 0, 1) := by decide +kernel
theorem d_Mo_withdraw_97 : decode b_Mo_withdraw 97 = .ok (.getfield 29, 3) := by decide +kernel
theorem d_Mo_withdraw_100 : decode b_Mo_withdraw 100 = .ok (.iload_n 2, 1) := by decide +kernel
theorem d_Mo_withdraw_101 : decode b_Mo_withdraw 101 = .ok (.iconst 3, 1) := by decide +kernel
theorem d_Mo_withdraw_102 : decode b_Mo_withdraw 102 = .ok (.imul, 1) := by decide +kernel
theorem d_Mo_withdraw_103 : decode b_Mo_withdraw 103 = .ok (.iconst 3, 1) := by decide +kernel
theorem d_Mo_withdraw_104 : decode b_Mo_withdraw 104 = .ok (.isub, 1) := by decide +kernel
theorem d_Mo_withdraw_105 : decode b_Mo_withdraw 105 = .ok (.iload_n 3, 1) := by decide +kernel
theorem d_Mo_withdraw_106 : decode b_Mo_withdraw 106 = .ok (.iadd, 1) := by decide +kernel
theorem d_Mo_withdraw_107 : decode b_Mo_withdraw 107 = .ok (.aload_n 0, 1) := by decide +kernel
theorem d_Mo_withdraw_108 : decode b_Mo_withdraw 108 = .ok (.getfield 29, 3) := by decide +kernel
theorem d_Mo_withdraw_111 : decode b_Mo_withdraw 111 = .ok (.iload_n 2, 1) := by decide +kernel
theorem d_Mo_withdraw_112 : decode b_Mo_withdraw 112 = .ok (.iconst 3, 1) := by decide +kernel
theorem d_Mo_withdraw_113 : decode b_Mo_withdraw 113 = .ok (.imul, 1) := by decide +kernel
theorem d_Mo_withdraw_114 : decode b_Mo_withdraw 114 = .ok (.iload_n 3, 1) := by decide +kernel
theorem d_Mo_withdraw_115 : decode b_Mo_withdraw 115 = .ok (.iadd, 1) := by decide +kernel
theorem d_Mo_withdraw_116 : decode b_Mo_withdraw 116 = .ok (.iaload, 1) := by decide +kernel
theorem d_Mo_withdraw_117 : decode b_Mo_withdraw 117 = .ok (.iastore, 1) := by decide +kernel
theorem d_Mo_withdraw_118 : decode b_Mo_withdraw 118 = .ok (.iinc 3 1, 3) := by decide +kernel
theorem d_Mo_withdraw_121 : decode b_Mo_withdraw 121 = .ok (.goto (-52), 3) := by decide +kernel
theorem d_Mo_withdraw_124 : decode b_Mo_withdraw 124 = .ok (.iinc 2 1, 3) := by decide +kernel
theorem d_Mo_withdraw_127 : decode b_Mo_withdraw 127 = .ok (.goto (-110), 3) := by decide +kernel
theorem d_Mo_withdraw_130 : decode b_Mo_withdraw 130 = .ok (.aload_n 0, 1) := by decide +kernel
theorem d_Mo_withdraw_131 : decode b_Mo_withdraw 131 = .ok (.dup, 1) := by decide +kernel
theorem d_Mo_withdraw_132 : decode b_Mo_withdraw 132 = .ok (.getfield 119, 3) := by decide +kernel
theorem d_Mo_withdraw_135 : decode b_Mo_withdraw 135 = .ok (.iconst 1, 1) := by decide +kernel
theorem d_Mo_withdraw_136 : decode b_Mo_withdraw 136 = .ok (.isub, 1) := by decide +kernel
theorem d_Mo_withdraw_137 : decode b_Mo_withdraw 137 = .ok (.putfield 119, 3) := by decide +kernel
theorem d_Mo_withdraw_140 : decode b_Mo_withdraw 140 = .ok (.aload_n 0, 1) := by decide +kernel
theorem d_Mo_withdraw_141 : decode b_Mo_withdraw 141 = .ok (.getfield 119, 3) := by decide +kernel
theorem d_Mo_withdraw_144 : decode b_Mo_withdraw 144 = .ok (.ireturn, 1) := by decide +kernel
theorem d_Mo_ruleText_0 : decode b_Mo_ruleText 0 = .ok (.iload_n 1, 1) := by decide +kernel
theorem d_Mo_ruleText_1 : decode b_Mo_ruleText 1 = .ok (.iconst 1, 1) := by decide +kernel
theorem d_Mo_ruleText_2 : decode b_Mo_ruleText 2 = .ok (.if_icmp .lt 15, 3) := by decide +kernel
theorem d_Mo_ruleText_5 : decode b_Mo_ruleText 5 = .ok (.iload_n 1, 1) := by decide +kernel
theorem d_Mo_ruleText_6 : decode b_Mo_ruleText 6 = .ok (.aload_n 0, 1) := by decide +kernel
theorem d_Mo_ruleText_7 : decode b_Mo_ruleText 7 = .ok (.getfield 119, 3) := by decide +kernel
theorem d_Mo_ruleText_10 : decode b_Mo_ruleText 10 = .ok (.if_icmp .gt 7, 3) := by decide +kernel
theorem d_Mo_ruleText_13 : decode b_Mo_ruleText 13 = .ok (.iload_n 2, 1) := by decide +kernel
theorem d_Mo_ruleText_14 : decode b_Mo_ruleText 14 = .ok (.ifCond .ge 5, 3) := by decide +kernel
theorem d_Mo_ruleText_17 : decode b_Mo_ruleText 17 = .ok (.iconst (-1), 1) := by decide +kernel
theorem d_Mo_ruleText_18 : decode b_Mo_ruleText 18 = .ok (.ireturn, 1) := by decide +kernel
theorem d_Mo_ruleText_19 : decode b_Mo_ruleText 19 = .ok (.iload_n 1, 1) := by decide +kernel
theorem d_Mo_ruleText_20 : decode b_Mo_ruleText 20 = .ok (.iconst 1, 1) := by decide +kernel
theorem d_Mo_ruleText_21 : decode b_Mo_ruleText 21 = .ok (.isub, 1) := by decide +kernel
theorem d_Mo_ruleText_22 : decode b_Mo_ruleText 22 = .ok (.istore_n 3, 1) := by decide +kernel
theorem d_Mo_ruleText_23 : decode b_Mo_ruleText 23 = .ok (.aload_n 0, 1) := by decide +kernel
theorem d_Mo_ruleText_24 : decode b_Mo_ruleText 24 = .ok (.iconst 0, 1) := by decide +kernel
theorem d_Mo_ruleText_25 : decode b_Mo_ruleText 25 = .ok (.putfield 126, 3) := by decide +kernel
theorem d_Mo_ruleText_28 : decode b_Mo_ruleText 28 = .ok (.aload_n 0, 1) := by decide +kernel
theorem d_Mo_ruleText_29 : decode b_Mo_ruleText 29 = .ok (.aload_n 0, 1) := by decide +kernel
theorem d_Mo_ruleText_30 : decode b_Mo_ruleText 30 = .ok (.getfield 17, 3) := by decide +kernel
theorem d_Mo_ruleText_33 : decode b_Mo_ruleText 33 = .ok (.iload_n 3, 1) := by decide +kernel
theorem d_Mo_ruleText_34 : decode b_Mo_ruleText 34 = .ok (.iaload, 1) := by decide +kernel
theorem d_Mo_ruleText_35 : decode b_Mo_ruleText 35 = .ok (.ifCond .ne 8, 3) := by decide +kernel
theorem d_Mo_ruleText_38 : decode b_Mo_ruleText 38 = .ok (.bipush 80, 2) := by decide +kernel
theorem d_Mo_ruleText_40 : decode b_Mo_ruleText 40 = .ok (.goto 20, 3) := by decide +kernel
theorem d_Mo_ruleText_43 : decode b_Mo_ruleText 43 = .ok (.aload_n 0, 1) := by decide +kernel
theorem d_Mo_ruleText_44 : decode b_Mo_ruleText 44 = .ok (.getfield 17, 3) := by decide +kernel
theorem d_Mo_ruleText_47 : decode b_Mo_ruleText 47 = .ok (.iload_n 3, 1) := by decide +kernel
theorem d_Mo_ruleText_48 : decode b_Mo_ruleText 48 = .ok (.iaload, 1) := by decide +kernel
theorem d_Mo_ruleText_49 : decode b_Mo_ruleText 49 = .ok (.iconst 1, 1) := by decide +kernel
theorem d_Mo_ruleText_50 : decode b_Mo_ruleText 50 = .ok (.if_icmp .ne 8, 3) := by decide +kernel
theorem d_Mo_ruleText_53 : decode b_Mo_ruleText 53 = .ok (.bipush 68, 2) := by decide +kernel
theorem d_Mo_ruleText_55 : decode b_Mo_ruleText 55 = .ok (.goto 5, 3) := by decide +kernel
theorem d_Mo_ruleText_58 : decode b_Mo_ruleText 58 = .ok (.bipush 83, 2) := by decide +kernel
theorem d_Mo_ruleText_60 : decode b_Mo_ruleText 60 = .ok (.invokevirtual 129, 3) := by decide +kernel
theorem d_Mo_ruleText_63 : decode b_Mo_ruleText 63 = .ok (.aload_n 0, 1) := by decide +kernel
theorem d_Mo_ruleText_64 : decode b_Mo_ruleText 64 = .ok (.aload_n 0, 1) := by decide +kernel
theorem d_Mo_ruleText_65 : decode b_Mo_ruleText 65 = .ok (.getfield 20, 3) := by decide +kernel
theorem d_Mo_ruleText_68 : decode b_Mo_ruleText 68 = .ok (.iload_n 3, 1) := by decide +kernel
theorem d_Mo_ruleText_69 : decode b_Mo_ruleText 69 = .ok (.iaload, 1) := by decide +kernel
theorem d_Mo_ruleText_70 : decode b_Mo_ruleText 70 = .ok (.ifCond .ne 8, 3) := by decide +kernel
theorem d_Mo_ruleText_73 : decode b_Mo_ruleText 73 = .ok (.bipush 105, 2) := by decide +kernel
theorem d_Mo_ruleText_75 : decode b_Mo_ruleText 75 = .ok (.goto 20, 3) := by decide +kernel
theorem d_Mo_ruleText_78 : decode b_Mo_ruleText 78 = .ok (.aload_n 0, 1) := by decide +kernel
theorem d_Mo_ruleText_79 : decode b_Mo_ruleText 79 = .ok (.getfield 20, 3) := by decide +kernel
theorem d_Mo_ruleText_82 : decode b_Mo_ruleText 82 = .ok (.iload_n 3, 1) := by decide +kernel
theorem d_Mo_ruleText_83 : decode b_Mo_ruleText 83 = .ok (.iaload, 1) := by decide +kernel
theorem d_Mo_ruleText_84 : decode b_Mo_ruleText 84 = .ok (.iconst 1, 1) := by decide +kernel
theorem d_Mo_ruleText_85 : decode b_Mo_ruleText 85 = .ok (.if_icmp .ne 8, 3) := by decide +kernel
theorem d_Mo_ruleText_88 : decode b_Mo_ruleText 88 = .ok (.bipush 111, 2) := by decide +kernel
theorem d_Mo_ruleText_90 : decode b_Mo_ruleText 90 = .ok (.goto 5, 3) := by decide +kernel
theorem d_Mo_ruleText_93 : decode b_Mo_ruleText 93 = .ok (.bipush 98, 2) := by decide +kernel
theorem d_Mo_ruleText_95 : decode b_Mo_ruleText 95 = .ok (.invokevirtual 129, 3) := by decide +kernel
theorem d_Mo_ruleText_98 : decode b_Mo_ruleText 98 = .ok (.aload_n 0, 1) := by decide +kernel
theorem d_Mo_ruleText_99 : decode b_Mo_ruleText 99 = .ok (.aload_n 0, 1) := by decide +kernel
theorem d_Mo_ruleText_100 : decode b_Mo_ruleText 100 = .ok (.getfield 23, 3) := by decide +kernel
theorem d_Mo_ruleText_103 : decode b_Mo_ruleText 103 = .ok (.iload_n 3, 1) := by decide +kernel
theorem d_Mo_ruleText_104 : decode b_Mo_ruleText 104 = .ok (.iaload, 1) := by decide +kernel
theorem d_Mo_ruleText_105 : decode b_Mo_ruleText 105 = .ok (.ifCond .ne 8, 3) := by decide +kernel
theorem d_Mo_ruleText_108 : decode b_Mo_ruleText 108 = .ok (.bipush 116, 2) := by decide +kernel
theorem d_Mo_ruleText_110 : decode b_Mo_ruleText 110 = .ok (.goto 35, 3) := by decide +kernel
theorem d_Mo_ruleText_113 : decode b_Mo_ruleText 113 = .ok (.aload_n 0, 1) := by decide +kernel
theorem d_Mo_ruleText_114 : decode b_Mo_ruleText 114 = .ok (.getfield 23, 3) := by decide +kernel
theorem d_Mo_ruleText_117 : decode b_Mo_ruleText 117 = .ok (.iload_n 3, 1) := by decide +kernel
theorem d_Mo_ruleText_118 : decode b_Mo_ruleText 118 = .ok (.iaload, 1) := by decide +kernel
theorem d_Mo_ruleText_119 : decode b_Mo_ruleText 119 = .ok (.iconst 1, 1) := by decide +kernel
theorem d_Mo_ruleText_120 : decode b_Mo_ruleText 120 = .ok (.if_icmp .ne 8, 3) := by decide +kernel
theorem d_Mo_ruleText_123 : decode b_Mo_ruleText 123 = .ok (.bipush 117, 2) := by decide +kernel
theorem d_Mo_ruleText_125 : decode b_Mo_ruleText 125 = .ok (.goto 20, 3) := by decide +kernel
theorem d_Mo_ruleText_128 : decode b_Mo_ruleText 128 = .ok (.aload_n 0, 1) := by decide +kernel
theorem d_Mo_ruleText_129 : decode b_Mo_ruleText 129 = .ok (.getfield 23, 3) := by decide +kernel
theorem d_Mo_ruleText_132 : decode b_Mo_ruleText 132 = .ok (.iload_n 3, 1) := by decide +kernel
theorem d_Mo_ruleText_133 : decode b_Mo_ruleText 133 = .ok (.iaload, 1) := by decide +kernel
theorem d_Mo_ruleText_134 : decode b_Mo_ruleText 134 = .ok (.iconst 2, 1) := by decide +kernel
theorem d_Mo_ruleText_135 : decode b_Mo_ruleText 135 = .ok (.if_icmp .ne 8, 3) := by decide +kernel
theorem d_Mo_ruleText_138 : decode b_Mo_ruleText 138 = .ok (.bipush 101, 2) := by decide +kernel
theorem d_Mo_ruleText_140 : decode b_Mo_ruleText 140 = .ok (.goto 5, 3) := by decide +kernel
theorem d_Mo_ruleText_143 : decode b_Mo_ruleText 143 = .ok (.bipush 42, 2) := by decide +kernel
theorem d_Mo_ruleText_145 : decode b_Mo_ruleText 145 = .ok (.invokevirtual 129, 3) := by decide +kernel
theorem d_Mo_ruleText_148 : decode b_Mo_ruleText 148 = .ok (.iconst 0, 1) := by decide +kernel
theorem d_Mo_ruleText_149 : decode b_Mo_ruleText 149 = .ok (.istore 4, 2) := by decide +kernel
theorem d_Mo_ruleText_151 : decode b_Mo_ruleText 151 = .ok (.iload 4, 2) := by decide +kernel
theorem d_Mo_ruleText_153 : decode b_Mo_ruleText 153 = .ok (.iconst 3, 1) := by decide +kernel
theorem d_Mo_ruleText_154 : decode b_Mo_ruleText 154 = .ok (.if_icmp .ge 96, 3) := by decide +kernel
theorem d_Mo_ruleText_157 : decode b_Mo_ruleText 157 = .ok (.aload_n 0, 1) := by decide +kernel
theorem d_Mo_ruleText_158 : decode b_Mo_ruleText 158 = .ok (.getfield 26, 3) := by decide +kernel
theorem d_Mo_ruleText_161 : decode b_Mo_ruleText 161 = .ok (.iload_n 3, 1) := by decide +kernel
theorem d_Mo_ruleText_162 : decode b_Mo_ruleText 162 = .ok (.iconst 3, 1) := by decide +kernel
theorem d_Mo_ruleText_163 : decode b_Mo_ruleText 163 = .ok (.imul, 1) := by decide +kernel
theorem d_Mo_ruleText_164 : decode b_Mo_ruleText 164 = .ok (.iload 4, 2) := by decide +kernel
theorem d_Mo_ruleText_166 : decode b_Mo_ruleText 166 = .ok (.iadd, 1) := by decide +kernel
theorem d_Mo_ruleText_167 : decode b_Mo_ruleText 167 = .ok (.iaload, 1) := by decide +kernel
theorem d_Mo_ruleText_168 : decode b_Mo_ruleText 168 = .ok (.istore 5, 2) := by decide +kernel
theorem d_Mo_ruleText_170 : decode b_Mo_ruleText 170 = .ok (.aload_n 0, 1) := by decide +kernel
theorem d_Mo_ruleText_171 : decode b_Mo_ruleText 171 = .ok (.getfield 29, 3) := by decide +kernel
theorem d_Mo_ruleText_174 : decode b_Mo_ruleText 174 = .ok (.iload_n 3, 1) := by decide +kernel
theorem d_Mo_ruleText_175 : decode b_Mo_ruleText 175 = .ok (.iconst 3, 1) := by decide +kernel
theorem d_Mo_ruleText_176 : decode b_Mo_ruleText 176 = .ok (.imul, 1) := by decide +kernel
theorem d_Mo_ruleText_177 : decode b_Mo_ruleText 177 = .ok (.iload 4, 2) := by decide +kernel
theorem d_Mo_ruleText_179 : decode b_Mo_ruleText 179 = .ok (.iadd, 1) := by decide +kernel
theorem d_Mo_ruleText_180 : decode b_Mo_ruleText 180 = .ok (.iaload, 1) := by decide +kernel
theorem d_Mo_ruleText_181 : decode b_Mo_ruleText 181 = .ok (.istore 6, 2) := by decide +kernel
theorem d_Mo_ruleText_183 : decode b_Mo_ruleText 183 = .ok (.iload 4, 2) := by decide +kernel
theorem d_Mo_ruleText_185 : decode b_Mo_ruleText 185 = .ok (.ifCond .le 9, 3) := by decide +kernel
theorem d_Mo_ruleText_188 : decode b_Mo_ruleText 188 = .ok (.aload_n 0, 1) := by decide +kernel
theorem d_Mo_ruleText_189 : decode b_Mo_ruleText 189 = .ok (.bipush 44, 2) := by decide +kernel
theorem d_Mo_ruleText_191 : decode b_Mo_ruleText 191 = .ok (.invokevirtual 129, 3) := by decide +kernel
theorem d_Mo_ruleText_194 : decode b_Mo_ruleText 194 = .ok (.iload 5, 2) := by decide +kernel
theorem d_Mo_ruleText_196 : decode b_Mo_ruleText 196 = .ok (.ifCond .ne 20, 3) := by decide +kernel
theorem d_Mo_ruleText_199 : decode b_Mo_ruleText 199 = .ok (.iload 6, 2) := by decide +kernel
theorem d_Mo_ruleText_201 : decode b_Mo_ruleText 201 = .ok (.sipush 255, 3) := by decide +kernel
theorem d_Mo_ruleText_204 : decode b_Mo_ruleText 204 = .ok (.if_icmp .ne 12, 3) := by decide +kernel
theorem d_Mo_ruleText_207 : decode b_Mo_ruleText 207 = .ok (.aload_n 0, 1) := by decide +kernel
theorem d_Mo_ruleText_208 : decode b_Mo_ruleText 208 = .ok (.bipush 42, 2) := by decide +kernel
theorem d_Mo_ruleText_210 : decode b_Mo_ruleText 210 = .ok (.invokevirtual 129, 3) := by decide +kernel
theorem d_Mo_ruleText_213 : decode b_Mo_ruleText 213 = .ok (.goto 31, 3) := by decide +kernel
theorem d_Mo_ruleText_216 : decode b_Mo_ruleText 216 = .ok (.aload_n 0, 1) := by decide +kernel
theorem d_Mo_ruleText_217 : decode b_Mo_ruleText 217 = .ok (.iload 5, 2) := by decide +kernel
theorem d_Mo_ruleText_219 : decode b_Mo_ruleText 219 = .ok (.invokevirtual 133, 3) := by decide +kernel
theorem d_Mo_ruleText_222 : decode b_Mo_ruleText 222 = .ok (.iload 5, 2) := by decide +kernel
theorem d_Mo_ruleText_224 : decode b_Mo_ruleText 224 = .ok (.iload 6, 2) := by decide +kernel
theorem d_Mo_ruleText_226 : decode b_Mo_ruleText 226 = .ok (.if_icmp .ne 6, 3) := by decide +kernel
theorem d_Mo_ruleText_229 : decode b_Mo_ruleText 229 = .ok (.goto 15, 3) := by decide +kernel
theorem d_Mo_ruleText_232 : decode b_Mo_ruleText 232 = .ok (.aload_n 0, 1) := by decide +kernel
theorem d_Mo_ruleText_233 : decode b_Mo_ruleText 233 = .ok (.bipush 45, 2) := by decide +kernel
theorem d_Mo_ruleText_235 : decode b_Mo_ruleText 235 = .ok (.invokevirtual 129, 3) := by decide +kernel
theorem d_Mo_ruleText_238 : decode b_Mo_ruleText 238 = .ok (.aload_n 0, 1) := by decide +kernel
theorem d_Mo_ruleText_239 : decode b_Mo_ruleText 239 = .ok (.iload 6, 2) := by decide +kernel
theorem d_Mo_ruleText_241 : decode b_Mo_ruleText 241 = .ok (.invokevirtual 133, 3) := by decide +kernel
theorem d_Mo_ruleText_244 : decode b_Mo_ruleText 244 = .ok (.iinc 4 1, 3) := by decide +kernel
theorem d_Mo_ruleText_247 : decode b_Mo_ruleText 247 = .ok (.goto (-96), 3) := by decide +kernel
theorem d_Mo_ruleText_250 : decode b_Mo_ruleText 250 = .ok (.iload_n 2, 1) := by decide +kernel
theorem d_Mo_ruleText_251 : decode b_Mo_ruleText 251 = .ok (.aload_n 0, 1) := by decide +kernel
theorem d_Mo_ruleText_252 : decode b_Mo_ruleText 252 = .ok (.getfield 126, 3) := by decide +kernel
theorem d_Mo_ruleText_255 : decode b_Mo_ruleText 255 = .ok (.if_icmp .ge 12, 3) := by decide +kernel
theorem d_Mo_ruleText_258 : decode b_Mo_ruleText 258 = .ok (.aload_n 0, 1) := by decide +kernel
theorem d_Mo_ruleText_259 : decode b_Mo_ruleText 259 = .ok (.getfield 38, 3) := by decide +kernel
theorem d_Mo_ruleText_262 : decode b_Mo_ruleText 262 = .ok (.iload_n 2, 1) := by decide +kernel
theorem d_Mo_ruleText_263 : decode b_Mo_ruleText 263 = .ok (.iaload, 1) := by decide +kernel
theorem d_Mo_ruleText_264 : decode b_Mo_ruleText 264 = .ok (.goto 4, 3) := by decide +kernel
theorem d_Mo_ruleText_267 : decode b_Mo_ruleText 267 = .ok (.iconst 0, 1) := by decide +kernel
theorem d_Mo_ruleText_268 : decode b_Mo_ruleText 268 = .ok (.ireturn, 1) := by decide +kernel
theorem d_Mo_say_0 : decode b_Mo_say 0 = .ok (.aload_n 0, 1) := by decide +kernel
theorem d_Mo_say_1 : decode b_Mo_say 1 = .ok (.getfield 38, 3) := by decide +kernel
theorem d_Mo_say_4 : decode b_Mo_say 4 = .ok (.aload_n 0, 1) := by decide +kernel
theorem d_Mo_say_5 : decode b_Mo_say 5 = .ok (.getfield 126, 3) := by decide +kernel
theorem d_Mo_say_8 : decode b_Mo_say 8 = .ok (.iload_n 1, 1) := by decide +kernel
theorem d_Mo_say_9 : decode b_Mo_say 9 = .ok (.iastore, 1) := by decide +kernel
theorem d_Mo_say_10 : decode b_Mo_say 10 = .ok (.aload_n 0, 1) := by decide +kernel
theorem d_Mo_say_11 : decode b_Mo_say 11 = .ok (.dup, 1) := by decide +kernel
theorem d_Mo_say_12 : decode b_Mo_say 12 = .ok (.getfield 126, 3) := by decide +kernel
theorem d_Mo_say_15 : decode b_Mo_say 15 = .ok (.iconst 1, 1) := by decide +kernel
theorem d_Mo_say_16 : decode b_Mo_say 16 = .ok (.iadd, 1) := by decide +kernel
theorem d_Mo_say_17 : decode b_Mo_say 17 = .ok (.putfield 126, 3) := by decide +kernel
theorem d_Mo_say_20 : decode b_Mo_say 20 = .ok (.return_, 1) := by decide +kernel
theorem d_Mo_sayNumber_0 : decode b_Mo_sayNumber 0 = .ok (.iload_n 1, 1) := by decide +kernel
theorem d_Mo_sayNumber_1 : decode b_Mo_sayNumber 1 = .ok (.bipush 100, 2) := by decide +kernel
theorem d_Mo_sayNumber_3 : decode b_Mo_sayNumber 3 = .ok (.if_icmp .lt 14, 3) := by decide +kernel
theorem d_Mo_sayNumber_6 : decode b_Mo_sayNumber 6 = .ok (.aload_n 0, 1) := by decide +kernel
theorem d_Mo_sayNumber_7 : decode b_Mo_sayNumber 7 = .ok (.bipush 48, 2) := by decide +kernel
theorem d_Mo_sayNumber_9 : decode b_Mo_sayNumber 9 = .ok (.iload_n 1, 1) := by decide +kernel
theorem d_Mo_sayNumber_10 : decode b_Mo_sayNumber 10 = .ok (.bipush 100, 2) := by decide +kernel
theorem d_Mo_sayNumber_12 : decode b_Mo_sayNumber 12 = .ok (.idiv, 1) := by decide +kernel
theorem d_Mo_sayNumber_13 : decode b_Mo_sayNumber 13 = .ok (.iadd, 1) := by decide +kernel
theorem d_Mo_sayNumber_14 : decode b_Mo_sayNumber 14 = .ok (.invokevirtual 129, 3) := by decide +kernel
theorem d_Mo_sayNumber_17 : decode b_Mo_sayNumber 17 = .ok (.iload_n 1, 1) := by decide +kernel
theorem d_Mo_sayNumber_18 : decode b_Mo_sayNumber 18 = .ok (.bipush 10, 2) := by decide +kernel
theorem d_Mo_sayNumber_20 : decode b_Mo_sayNumber 20 = .ok (.if_icmp .lt 17, 3) := by decide +kernel
theorem d_Mo_sayNumber_23 : decode b_Mo_sayNumber 23 = .ok (.aload_n 0, 1) := by decide +kernel
theorem d_Mo_sayNumber_24 : decode b_Mo_sayNumber 24 = .ok (.bipush 48, 2) := by decide +kernel
theorem d_Mo_sayNumber_26 : decode b_Mo_sayNumber 26 = .ok (.iload_n 1, 1) := by decide +kernel
theorem d_Mo_sayNumber_27 : decode b_Mo_sayNumber 27 = .ok (.bipush 10, 2) := by decide +kernel
theorem d_Mo_sayNumber_29 : decode b_Mo_sayNumber 29 = .ok (.idiv, 1) := by decide +kernel
theorem d_Mo_sayNumber_30 : decode b_Mo_sayNumber 30 = .ok (.bipush 10, 2) := by decide +kernel
theorem d_Mo_sayNumber_32 : decode b_Mo_sayNumber 32 = .ok (.irem, 1) := by decide +kernel
theorem d_Mo_sayNumber_33 : decode b_Mo_sayNumber 33 = .ok (.iadd, 1) := by decide +kernel
theorem d_Mo_sayNumber_34 : decode b_Mo_sayNumber 34 = .ok (.invokevirtual 129, 3) := by decide +kernel
theorem d_Mo_sayNumber_37 : decode b_Mo_sayNumber 37 = .ok (.aload_n 0, 1) := by decide +kernel
theorem d_Mo_sayNumber_38 : decode b_Mo_sayNumber 38 = .ok (.bipush 48, 2) := by decide +kernel
theorem d_Mo_sayNumber_40 : decode b_Mo_sayNumber 40 = .ok (.iload_n 1, 1) := by decide +kernel
theorem d_Mo_sayNumber_41 : decode b_Mo_sayNumber 41 = .ok (.bipush 10, 2) := by decide +kernel
theorem d_Mo_sayNumber_43 : decode b_Mo_sayNumber 43 = .ok (.irem, 1) := by decide +kernel
theorem d_Mo_sayNumber_44 : decode b_Mo_sayNumber 44 = .ok (.iadd, 1) := by decide +kernel
theorem d_Mo_sayNumber_45 : decode b_Mo_sayNumber 45 = .ok (.invokevirtual 129, 3) := by decide +kernel
theorem d_Mo_sayNumber_48 : decode b_Mo_sayNumber 48 = .ok (.return_, 1) := by decide +kernel
theorem d_Mo_expose_0 : decode b_Mo_expose 0 = .ok (.iload_n 1, 1) := by decide +kernel
theorem d_Mo_expose_1 : decode b_Mo_expose 1 = .ok (.invokestatic 151, 3) := by decide +kernel
theorem d_Mo_expose_4 : decode b_Mo_expose 4 = .ok (.ifCond .eq 28, 3) := by decide +kernel
theorem d_Mo_expose_7 : decode b_Mo_expose 7 = .ok (.iload_n 2, 1) := by decide +kernel
theorem d_Mo_expose_8 : decode b_Mo_expose 8 = .ok (.ifCond .lt 24, 3) := by decide +kernel
theorem d_Mo_expose_11 : decode b_Mo_expose 11 = .ok (.iload_n 2, 1) := by decide +kernel
theorem d_Mo_expose_12 : decode b_Mo_expose 12 = .ok (.bipush 99, 2) := by decide +kernel
theorem d_Mo_expose_14 : decode b_Mo_expose 14 = .ok (.if_icmp .gt 18, 3) := by decide +kernel
theorem d_Mo_expose_17 : decode b_Mo_expose 17 = .ok (.iload_n 3, 1) := by decide +kernel
theorem d_Mo_expose_18 : decode b_Mo_expose 18 = .ok (.invokestatic 154, 3) := by decide +kernel
theorem d_Mo_expose_21 : decode b_Mo_expose 21 = .ok (.ifCond .eq 11, 3) := by decide +kernel
theorem d_Mo_expose_24 : decode b_Mo_expose 24 = .ok (.iload 4, 2) := by decide +kernel
theorem d_Mo_expose_26 : decode b_Mo_expose 26 = .ok (.invokestatic 157, 3) := by decide +kernel
theorem d_Mo_expose_29 : decode b_Mo_expose 29 = .ok (.ifCond .ne 5, 3) := by decide +kernel
theorem d_Mo_expose_32 : decode b_Mo_expose 32 = .ok (.iconst (-1), 1) := by decide +kernel
theorem d_Mo_expose_33 : decode b_Mo_expose 33 = .ok (.ireturn, 1) := by decide +kernel
theorem d_Mo_expose_34 : decode b_Mo_expose 34 = .ok (.aload_n 0, 1) := by decide +kernel
theorem d_Mo_expose_35 : decode b_Mo_expose 35 = .ok (.iload_n 1, 1) := by decide +kernel
theorem d_Mo_expose_36 : decode b_Mo_expose 36 = .ok (.iload_n 2, 1) := by decide +kernel
theorem d_Mo_expose_37 : decode b_Mo_expose 37 = .ok (.invokevirtual 160, 3) := by decide +kernel
theorem d_Mo_expose_40 : decode b_Mo_expose 40 = .ok (.ifCond .ne 14, 3) := by decide +kernel
theorem d_Mo_expose_43 : decode b_Mo_expose 43 = .ok (.aload_n 0, 1) := by decide +kernel
theorem d_Mo_expose_44 : decode b_Mo_expose 44 = .ok (.iload_n 1, 1) := by decide +kernel
theorem d_Mo_expose_45 : decode b_Mo_expose 45 = .ok (.iload_n 3, 1) := by decide +kernel
theorem d_Mo_expose_46 : decode b_Mo_expose 46 = .ok (.iload 4, 2) := by decide +kernel
theorem d_Mo_expose_48 : decode b_Mo_expose 48 = .ok (.invokevirtual 164, 3) := by decide +kernel
theorem d_Mo_expose_51 : decode b_Mo_expose 51 = .ok (.ifCond .lt 6, 3) := by decide +kernel
theorem d_Mo_expose_54 : decode b_Mo_expose 54 = .ok (.bipush (-6), 2) := by decide +kernel
theorem d_Mo_expose_56 : decode b_Mo_expose 56 = .ok (.ireturn, 1) := by decide +kernel
theorem d_Mo_expose_57 : decode b_Mo_expose 57 = .ok (.aload_n 0, 1) := by decide +kernel
theorem d_Mo_expose_58 : decode b_Mo_expose 58 = .ok (.getfield 139, 3) := by decide +kernel
theorem d_Mo_expose_61 : decode b_Mo_expose 61 = .ok (.iconst 4, 1) := by decide +kernel
theorem d_Mo_expose_62 : decode b_Mo_expose 62 = .ok (.if_icmp .ne 6, 3) := by decide +kernel
theorem d_Mo_expose_65 : decode b_Mo_expose 65 = .ok (.bipush (-3), 2) := by decide +kernel
theorem d_Mo_expose_67 : decode b_Mo_expose 67 = .ok (.ireturn, 1) := by decide +kernel
theorem d_Mo_expose_68 : decode b_Mo_expose 68 = .ok (.aload_n 0, 1) := by decide +kernel
theorem d_Mo_expose_69 : decode b_Mo_expose 69 = .ok (.getfield 41, 3) := by decide +kernel
theorem d_Mo_expose_72 : decode b_Mo_expose 72 = .ok (.aload_n 0, 1) := by decide +kernel
theorem d_Mo_expose_73 : decode b_Mo_expose 73 = .ok (.getfield 139, 3) := by decide +kernel
theorem d_Mo_expose_76 : decode b_Mo_expose 76 = .ok (.iload_n 1, 1) := by decide +kernel
theorem d_Mo_expose_77 : decode b_Mo_expose 77 = .ok (.iastore, 1) := by decide +kernel
theorem d_Mo_expose_78 : decode b_Mo_expose 78 = .ok (.aload_n 0, 1) := by decide +kernel
theorem d_Mo_expose_79 : decode b_Mo_expose 79 = .ok (.getfield 44, 3) := by decide +kernel
theorem d_Mo_expose_82 : decode b_Mo_expose 82 = .ok (.aload_n 0, 1) := by decide +kernel
theorem d_Mo_expose_83 : decode b_Mo_expose 83 = .ok (.getfield 139, 3) := by decide +kernel
theorem d_Mo_expose_86 : decode b_Mo_expose 86 = .ok (.iload_n 2, 1) := by decide +kernel
theorem d_Mo_expose_87 : decode b_Mo_expose 87 = .ok (.iastore, 1) := by decide +kernel
theorem d_Mo_expose_88 : decode b_Mo_expose 88 = .ok (.aload_n 0, 1) := by decide +kernel
theorem d_Mo_expose_89 : decode b_Mo_expose 89 = .ok (.getfield 47, 3) := by decide +kernel
theorem d_Mo_expose_92 : decode b_Mo_expose 92 = .ok (.aload_n 0, 1) := by decide +kernel
theorem d_Mo_expose_93 : decode b_Mo_expose 93 = .ok (.getfield 139, 3) := by decide +kernel
theorem d_Mo_expose_96 : decode b_Mo_expose 96 = .ok (.iload_n 3, 1) := by decide +kernel
theorem d_Mo_expose_97 : decode b_Mo_expose 97 = .ok (.iastore, 1) := by decide +kernel
theorem d_Mo_expose_98 : decode b_Mo_expose 98 = .ok (.aload_n 0, 1) := by decide +kernel
theorem d_Mo_expose_99 : decode b_Mo_expose 99 = .ok (.getfield 50, 3) := by decide +kernel
theorem d_Mo_expose_102 : decode b_Mo_expose 102 = .ok (.aload_n 0, 1) := by decide +kernel
theorem d_Mo_expose_103 : decode b_Mo_expose 103 = .ok (.getfield 139, 3) := by decide +kernel
theorem d_Mo_expose_106 : decode b_Mo_expose 106 = .ok (.iload 4, 2) := by decide +kernel
theorem d_Mo_expose_108 : decode b_Mo_expose 108 = .ok (.iastore, 1) := by decide +kernel
theorem d_Mo_expose_109 : decode b_Mo_expose 109 = .ok (.aload_n 0, 1) := by decide +kernel
theorem d_Mo_expose_110 : decode b_Mo_expose 110 = .ok (.dup, 1) := by decide +kernel
theorem d_Mo_expose_111 : decode b_Mo_expose 111 = .ok (.getfield 139, 3) := by decide +kernel
theorem d_Mo_expose_114 : decode b_Mo_expose 114 = .ok (.iconst 1, 1) := by decide +kernel
theorem d_Mo_expose_115 : decode b_Mo_expose 115 = .ok (.iadd, 1) := by decide +kernel
theorem d_Mo_expose_116 : decode b_Mo_expose 116 = .ok (.putfield 139, 3) := by decide +kernel
theorem d_Mo_expose_119 : decode b_Mo_expose 119 = .ok (.iconst 0, 1) := by decide +kernel
theorem d_Mo_expose_120 : decode b_Mo_expose 120 = .ok (.ireturn, 1) := by decide +kernel
theorem d_Mo_isProtocol_0 : decode b_Mo_isProtocol 0 = .ok (.iload_n 0, 1) := by decide +kernel
theorem d_Mo_isProtocol_1 : decode b_Mo_isProtocol 1 = .ok (.ifCond .lt 12, 3) := by decide +kernel
theorem d_Mo_isProtocol_4 : decode b_Mo_isProtocol 4 = .ok (.iload_n 0, 1) := by decide +kernel
theorem d_Mo_isProtocol_5 : decode b_Mo_isProtocol 5 = .ok (.iconst 2, 1) := by decide +kernel
theorem d_Mo_isProtocol_6 : decode b_Mo_isProtocol 6 = .ok (.if_icmp .gt 7, 3) := by decide +kernel
theorem d_Mo_isProtocol_9 : decode b_Mo_isProtocol 9 = .ok (.iconst 1, 1) := by decide +kernel
theorem d_Mo_isProtocol_10 : decode b_Mo_isProtocol 10 = .ok (.goto 4, 3) := by decide +kernel
theorem d_Mo_isProtocol_13 : decode b_Mo_isProtocol 13 = .ok (.iconst 0, 1) := by decide +kernel
theorem d_Mo_isProtocol_14 : decode b_Mo_isProtocol 14 = .ok (.ireturn, 1) := by decide +kernel
theorem d_Mo_inside_0 : decode b_Mo_inside 0 = .ok (.iload_n 0, 1) := by decide +kernel
theorem d_Mo_inside_1 : decode b_Mo_inside 1 = .ok (.ifCond .lt 13, 3) := by decide +kernel
theorem d_Mo_inside_4 : decode b_Mo_inside 4 = .ok (.iload_n 0, 1) := by decide +kernel
theorem d_Mo_inside_5 : decode b_Mo_inside 5 = .ok (.bipush 127, 2) := by decide +kernel
theorem d_Mo_inside_7 : decode b_Mo_inside 7 = .ok (.if_icmp .gt 7, 3) := by decide +kernel
theorem d_Mo_inside_10 : decode b_Mo_inside 10 = .ok (.iconst 1, 1) := by decide +kernel
theorem d_Mo_inside_11 : decode b_Mo_inside 11 = .ok (.goto 4, 3) := by decide +kernel
theorem d_Mo_inside_14 : decode b_Mo_inside 14 = .ok (.iconst 0, 1) := by decide +kernel
theorem d_Mo_inside_15 : decode b_Mo_inside 15 = .ok (.ireturn, 1) := by decide +kernel
theorem d_Mo_isByte_0 : decode b_Mo_isByte 0 = .ok (.iload_n 0, 1) := by decide +kernel
theorem d_Mo_isByte_1 : decode b_Mo_isByte 1 = .ok (.ifCond .lt 14, 3) := by decide +kernel
theorem d_Mo_isByte_4 : decode b_Mo_isByte 4 = .ok (.iload_n 0, 1) := by decide +kernel
theorem d_Mo_isByte_5 : decode b_Mo_isByte 5 = .ok (.sipush 255, 3) := by decide +kernel
theorem d_Mo_isByte_8 : decode b_Mo_isByte 8 = .ok (.if_icmp .gt 7, 3) := by decide +kernel
theorem d_Mo_isByte_11 : decode b_Mo_isByte 11 = .ok (.iconst 1, 1) := by decide +kernel
theorem d_Mo_isByte_12 : decode b_Mo_isByte 12 = .ok (.goto 4, 3) := by decide +kernel
theorem d_Mo_isByte_15 : decode b_Mo_isByte 15 = .ok (.iconst 0, 1) := by decide +kernel
theorem d_Mo_isByte_16 : decode b_Mo_isByte 16 = .ok (.ireturn, 1) := by decide +kernel
theorem d_Mo_mapped_0 : decode b_Mo_mapped 0 = .ok (.iconst 0, 1) := by decide +kernel
theorem d_Mo_mapped_1 : decode b_Mo_mapped 1 = .ok (.istore_n 3, 1) := by decide +kernel
theorem d_Mo_mapped_2 : decode b_Mo_mapped 2 = .ok (.iload_n 3, 1) := by decide +kernel
theorem d_Mo_mapped_3 : decode b_Mo_mapped 3 = .ok (.aload_n 0, 1) := by decide +kernel
theorem d_Mo_mapped_4 : decode b_Mo_mapped 4 = .ok (.getfield 139, 3) := by decide +kernel
theorem d_Mo_mapped_7 : decode b_Mo_mapped 7 = .ok (.if_icmp .ge 54, 3) := by decide +kernel
theorem d_Mo_mapped_10 : decode b_Mo_mapped 10 = .ok (.aload_n 0, 1) := by decide +kernel
theorem d_Mo_mapped_11 : decode b_Mo_mapped 11 = .ok (.getfield 41, 3) := by decide +kernel
theorem d_Mo_mapped_14 : decode b_Mo_mapped 14 = .ok (.iload_n 3, 1) := by decide +kernel
theorem d_Mo_mapped_15 : decode b_Mo_mapped 15 = .ok (.iaload, 1) := by decide +kernel
theorem d_Mo_mapped_16 : decode b_Mo_mapped 16 = .ok (.iload_n 1, 1) := by decide +kernel
theorem d_Mo_mapped_17 : decode b_Mo_mapped 17 = .ok (.if_icmp .ne 38, 3) := by decide +kernel
theorem d_Mo_mapped_20 : decode b_Mo_mapped 20 = .ok (.aload_n 0, 1) := by decide +kernel
theorem d_Mo_mapped_21 : decode b_Mo_mapped 21 = .ok (.getfield 44, 3) := by decide +kernel
theorem d_Mo_mapped_24 : decode b_Mo_mapped 24 = .ok (.iload_n 3, 1) := by decide +kernel
theorem d_Mo_mapped_25 : decode b_Mo_mapped 25 = .ok (.iaload, 1) := by decide +kernel
theorem d_Mo_mapped_26 : decode b_Mo_mapped 26 = .ok (.iload_n 2, 1) := by decide +kernel
theorem d_Mo_mapped_27 : decode b_Mo_mapped 27 = .ok (.if_icmp .eq 6, 3) := by decide +kernel
theorem d_Mo_mapped_30 : decode b_Mo_mapped 30 = .ok (.goto 25, 3) := by decide +kernel
theorem d_Mo_mapped_33 : decode b_Mo_mapped 33 = .ok (.aload_n 0, 1) := by decide +kernel
theorem d_Mo_mapped_34 : decode b_Mo_mapped 34 = .ok (.aload_n 0, 1) := by decide +kernel
theorem d_Mo_mapped_35 : decode b_Mo_mapped 35 = .ok (.getfield 47, 3) := by decide +kernel
theorem d_Mo_mapped_38 : decode b_Mo_mapped 38 = .ok (.iload_n 3, 1) := by decide +kernel
theorem d_Mo_mapped_39 : decode b_Mo_mapped 39 = .ok (.iaload, 1) := by decide +kernel
theorem d_Mo_mapped_40 : decode b_Mo_mapped 40 = .ok (.putfield 145, 3) := by decide +kernel
theorem d_Mo_mapped_43 : decode b_Mo_mapped 43 = .ok (.aload_n 0, 1) := by decide +kernel
theorem d_Mo_mapped_44 : decode b_Mo_mapped 44 = .ok (.aload_n 0, 1) := by decide +kernel
theorem d_Mo_mapped_45 : decode b_Mo_mapped 45 = .ok (.getfield 50, 3) := by decide +kernel
theorem d_Mo_mapped_48 : decode b_Mo_mapped 48 = .ok (.iload_n 3, 1) := by decide +kernel
theorem d_Mo_mapped_49 : decode b_Mo_mapped 49 = .ok (.iaload, 1) := by decide +kernel
theorem d_Mo_mapped_50 : decode b_Mo_mapped 50 = .ok (.putfield 148, 3) := by decide +kernel
theorem d_Mo_mapped_53 : decode b_Mo_mapped 53 = .ok (.iconst 1, 1) := by decide +kernel
theorem d_Mo_mapped_54 : decode b_Mo_mapped 54 = .ok (.ireturn, 1) := by decide +kernel
theorem d_Mo_mapped_55 : decode b_Mo_mapped 55 = .ok (.iinc 3 1, 3) := by decide +kernel
theorem d_Mo_mapped_58 : decode b_Mo_mapped 58 = .ok (.goto (-56), 3) := by decide +kernel
theorem d_Mo_mapped_61 : decode b_Mo_mapped 61 = .ok (.iconst 0, 1) := by decide +kernel
theorem d_Mo_mapped_62 : decode b_Mo_mapped 62 = .ok (.istore_n 3, 1) := by decide +kernel
theorem d_Mo_mapped_63 : decode b_Mo_mapped 63 = .ok (.iload_n 3, 1) := by decide +kernel
theorem d_Mo_mapped_64 : decode b_Mo_mapped 64 = .ok (.aload_n 0, 1) := by decide +kernel
theorem d_Mo_mapped_65 : decode b_Mo_mapped 65 = .ok (.getfield 142, 3) := by decide +kernel
theorem d_Mo_mapped_68 : decode b_Mo_mapped 68 = .ok (.if_icmp .ge 54, 3) := by decide +kernel
theorem d_Mo_mapped_71 : decode b_Mo_mapped 71 = .ok (.aload_n 0, 1) := by decide +kernel
theorem d_Mo_mapped_72 : decode b_Mo_mapped 72 = .ok (.getfield 56, 3) := by decide +kernel
theorem d_Mo_mapped_75 : decode b_Mo_mapped 75 = .ok (.iload_n 3, 1) := by decide +kernel
theorem d_Mo_mapped_76 : decode b_Mo_mapped 76 = .ok (.iaload, 1) := by decide +kernel
theorem d_Mo_mapped_77 : decode b_Mo_mapped 77 = .ok (.iload_n 1, 1) := by decide +kernel
theorem d_Mo_mapped_78 : decode b_Mo_mapped 78 = .ok (.if_icmp .ne 38, 3) := by decide +kernel
theorem d_Mo_mapped_81 : decode b_Mo_mapped 81 = .ok (.aload_n 0, 1) := by decide +kernel
theorem d_Mo_mapped_82 : decode b_Mo_mapped 82 = .ok (.getfield 71, 3) := by decide +kernel
theorem d_Mo_mapped_85 : decode b_Mo_mapped 85 = .ok (.iload_n 3, 1) := by decide +kernel
theorem d_Mo_mapped_86 : decode b_Mo_mapped 86 = .ok (.iaload, 1) := by decide +kernel
theorem d_Mo_mapped_87 : decode b_Mo_mapped 87 = .ok (.iload_n 2, 1) := by decide +kernel
theorem d_Mo_mapped_88 : decode b_Mo_mapped 88 = .ok (.if_icmp .eq 6, 3) := by decide +kernel
theorem d_Mo_mapped_91 : decode b_Mo_mapped 91 = .ok (.goto 25, 3) := by decide +kernel
theorem d_Mo_mapped_94 : decode b_Mo_mapped 94 = .ok (.aload_n 0, 1) := by decide +kernel
theorem d_Mo_mapped_95 : decode b_Mo_mapped 95 = .ok (.aload_n 0, 1) := by decide +kernel
theorem d_Mo_mapped_96 : decode b_Mo_mapped 96 = .ok (.getfield 59, 3) := by decide +kernel
theorem d_Mo_mapped_99 : decode b_Mo_mapped 99 = .ok (.iload_n 3, 1) := by decide +kernel
theorem d_Mo_mapped_100 : decode b_Mo_mapped 100 = .ok (.iaload, 1) := by decide +kernel
theorem d_Mo_mapped_101 : decode b_Mo_mapped 101 = .ok (.putfield 145, 3) := by decide +kernel
theorem d_Mo_mapped_104 : decode b_Mo_mapped 104 = .ok (.aload_n 0, 1) := by decide +kernel
theorem d_Mo_mapped_105 : decode b_Mo_mapped 105 = .ok (.aload_n 0, 1) := by decide +kernel
theorem d_Mo_mapped_106 : decode b_Mo_mapped 106 = .ok (.getfield 62, 3) := by decide +kernel
theorem d_Mo_mapped_109 : decode b_Mo_mapped 109 = .ok (.iload_n 3, 1) := by decide +kernel
theorem d_Mo_mapped_110 : decode b_Mo_mapped 110 = .ok (.iaload, 1) := by decide +kernel
theorem d_Mo_mapped_111 : decode b_Mo_mapped 111 = .ok (.putfield 148, 3) := by decide +kernel
theorem d_Mo_mapped_114 : decode b_Mo_mapped 114 = .ok (.iconst 1, 1) := by decide +kernel
theorem d_Mo_mapped_115 : decode b_Mo_mapped 115 = .ok (.ireturn, 1) := by decide +kernel
theorem d_Mo_mapped_116 : decode b_Mo_mapped 116 = .ok (.iinc 3 1, 3) := by decide +kernel
theorem d_Mo_mapped_119 : decode b_Mo_mapped 119 = .ok (.goto (-56), 3) := by decide +kernel
theorem d_Mo_mapped_122 : decode b_Mo_mapped 122 = .ok (.iconst 0, 1) := by decide +kernel
theorem d_Mo_mapped_123 : decode b_Mo_mapped 123 = .ok (.ireturn, 1) := by decide +kernel
theorem d_Mo_portOf_0 : decode b_Mo_portOf 0 = .ok (.iconst 0, 1) := by decide +kernel
theorem d_Mo_portOf_1 : decode b_Mo_portOf 1 = .ok (.istore 4, 2) := by decide +kernel
theorem d_Mo_portOf_3 : decode b_Mo_portOf 3 = .ok (.iload 4, 2) := by decide +kernel
theorem d_Mo_portOf_5 : decode b_Mo_portOf 5 = .ok (.aload_n 0, 1) := by decide +kernel
theorem d_Mo_portOf_6 : decode b_Mo_portOf 6 = .ok (.getfield 139, 3) := by decide +kernel
theorem d_Mo_portOf_9 : decode b_Mo_portOf 9 = .ok (.if_icmp .ge 50, 3) := by decide +kernel
theorem d_Mo_portOf_12 : decode b_Mo_portOf 12 = .ok (.aload_n 0, 1) := by decide +kernel
theorem d_Mo_portOf_13 : decode b_Mo_portOf 13 = .ok (.getfield 41, 3) := by decide +kernel
theorem d_Mo_portOf_16 : decode b_Mo_portOf 16 = .ok (.iload 4, 2) := by decide +kernel
theorem d_Mo_portOf_18 : decode b_Mo_portOf 18 = .ok (.iaload, 1) := by decide +kernel
theorem d_Mo_portOf_19 : decode b_Mo_portOf 19 = .ok (.iload_n 1, 1) := by decide +kernel
theorem d_Mo_portOf_20 : decode b_Mo_portOf 20 = .ok (.if_icmp .ne 33, 3) := by decide +kernel
theorem d_Mo_portOf_23 : decode b_Mo_portOf 23 = .ok (.aload_n 0, 1) := by decide +kernel
theorem d_Mo_portOf_24 : decode b_Mo_portOf 24 = .ok (.getfield 47, 3) := by decide +kernel
theorem d_Mo_portOf_27 : decode b_Mo_portOf 27 = .ok (.iload 4, 2) := by decide +kernel
theorem d_Mo_portOf_29 : decode b_Mo_portOf 29 = .ok (.iaload, 1) := by decide +kernel
theorem d_Mo_portOf_30 : decode b_Mo_portOf 30 = .ok (.iload_n 2, 1) := by decide +kernel
theorem d_Mo_portOf_31 : decode b_Mo_portOf 31 = .ok (.if_icmp .ne 22, 3) := by decide +kernel
theorem d_Mo_portOf_34 : decode b_Mo_portOf 34 = .ok (.aload_n 0, 1) := by decide +kernel
theorem d_Mo_portOf_35 : decode b_Mo_portOf 35 = .ok (.getfield 50, 3) := by decide +kernel
theorem d_Mo_portOf_38 : decode b_Mo_portOf 38 = .ok (.iload 4, 2) := by decide +kernel
theorem d_Mo_portOf_40 : decode b_Mo_portOf 40 = .ok (.iaload, 1) := by decide +kernel
theorem d_Mo_portOf_41 : decode b_Mo_portOf 41 = .ok (.iload_n 3, 1) := by decide +kernel
theorem d_Mo_portOf_42 : decode b_Mo_portOf 42 = .ok (.if_icmp .ne 11, 3) := by decide +kernel
theorem d_Mo_portOf_45 : decode b_Mo_portOf 45 = .ok (.aload_n 0, 1) := by decide +kernel
theorem d_Mo_portOf_46 : decode b_Mo_portOf 46 = .ok (.getfield 44, 3) := by decide +kernel
theorem d_Mo_portOf_49 : decode b_Mo_portOf 49 = .ok (.iload 4, 2) := by decide +kernel
theorem d_Mo_portOf_51 : decode b_Mo_portOf 51 = .ok (.iaload, 1) := by decide +kernel
theorem d_Mo_portOf_52 : decode b_Mo_portOf 52 = .ok (.ireturn, 1) := by decide +kernel
theorem d_Mo_portOf_53 : decode b_Mo_portOf 53 = .ok (.iinc 4 1, 3) := by decide +kernel
theorem d_Mo_portOf_56 : decode b_Mo_portOf 56 = .ok (.goto (-53), 3) := by decide +kernel
theorem d_Mo_portOf_59 : decode b_Mo_portOf 59 = .ok (.iconst 0, 1) := by decide +kernel
theorem d_Mo_portOf_60 : decode b_Mo_portOf 60 = .ok (.istore 4, 2) := by decide +kernel
theorem d_Mo_portOf_62 : decode b_Mo_portOf 62 = .ok (.iload 4, 2) := by decide +kernel
theorem d_Mo_portOf_64 : decode b_Mo_portOf 64 = .ok (.aload_n 0, 1) := by decide +kernel
theorem d_Mo_portOf_65 : decode b_Mo_portOf 65 = .ok (.getfield 142, 3) := by decide +kernel
theorem d_Mo_portOf_68 : decode b_Mo_portOf 68 = .ok (.if_icmp .ge 50, 3) := by decide +kernel
theorem d_Mo_portOf_71 : decode b_Mo_portOf 71 = .ok (.aload_n 0, 1) := by decide +kernel
theorem d_Mo_portOf_72 : decode b_Mo_portOf 72 = .ok (.getfield 56, 3) := by decide +kernel
theorem d_Mo_portOf_75 : decode b_Mo_portOf 75 = .ok (.iload 4, 2) := by decide +kernel
theorem d_Mo_portOf_77 : decode b_Mo_portOf 77 = .ok (.iaload, 1) := by decide +kernel
theorem d_Mo_portOf_78 : decode b_Mo_portOf 78 = .ok (.iload_n 1, 1) := by decide +kernel
theorem d_Mo_portOf_79 : decode b_Mo_portOf 79 = .ok (.if_icmp .ne 33, 3) := by decide +kernel
theorem d_Mo_portOf_82 : decode b_Mo_portOf 82 = .ok (.aload_n 0, 1) := by decide +kernel
theorem d_Mo_portOf_83 : decode b_Mo_portOf 83 = .ok (.getfield 59, 3) := by decide +kernel
theorem d_Mo_portOf_86 : decode b_Mo_portOf 86 = .ok (.iload 4, 2) := by decide +kernel
theorem d_Mo_portOf_88 : decode b_Mo_portOf 88 = .ok (.iaload, 1) := by decide +kernel
theorem d_Mo_portOf_89 : decode b_Mo_portOf 89 = .ok (.iload_n 2, 1) := by decide +kernel
theorem d_Mo_portOf_90 : decode b_Mo_portOf 90 = .ok (.if_icmp .ne 22, 3) := by decide +kernel
theorem d_Mo_portOf_93 : decode b_Mo_portOf 93 = .ok (.aload_n 0, 1) := by decide +kernel
theorem d_Mo_portOf_94 : decode b_Mo_portOf 94 = .ok (.getfield 62, 3) := by decide +kernel
theorem d_Mo_portOf_97 : decode b_Mo_portOf 97 = .ok (.iload 4, 2) := by decide +kernel
theorem d_Mo_portOf_99 : decode b_Mo_portOf 99 = .ok (.iaload, 1) := by decide +kernel
theorem d_Mo_portOf_100 : decode b_Mo_portOf 100 = .ok (.iload_n 3, 1) := by decide +kernel
theorem d_Mo_portOf_101 : decode b_Mo_portOf 101 = .ok (.if_icmp .ne 11, 3) := by decide +kernel
theorem d_Mo_portOf_104 : decode b_Mo_portOf 104 = .ok (.aload_n 0, 1) := by decide +kernel
theorem d_Mo_portOf_105 : decode b_Mo_portOf 105 = .ok (.getfield 71, 3) := by decide +kernel
theorem d_Mo_portOf_108 : decode b_Mo_portOf 108 = .ok (.iload 4, 2) := by decide +kernel
theorem d_Mo_portOf_110 : decode b_Mo_portOf 110 = .ok (.iaload, 1) := by decide +kernel
theorem d_Mo_portOf_111 : decode b_Mo_portOf 111 = .ok (.ireturn, 1) := by decide +kernel
theorem d_Mo_portOf_112 : decode b_Mo_portOf 112 = .ok (.iinc 4 1, 3) := by decide +kernel
theorem d_Mo_portOf_115 : decode b_Mo_portOf 115 = .ok (.goto (-53), 3) := by decide +kernel
theorem d_Mo_portOf_118 : decode b_Mo_portOf 118 = .ok (.iconst (-1), 1) := by decide +kernel
theorem d_Mo_portOf_119 : decode b_Mo_portOf 119 = .ok (.ireturn, 1) := by decide +kernel
theorem d_Mo_hide_0 : decode b_Mo_hide 0 = .ok (.iconst 0, 1) := by decide +kernel
theorem d_Mo_hide_1 : decode b_Mo_hide 1 = .ok (.istore_n 3, 1) := by decide +kernel
theorem d_Mo_hide_2 : decode b_Mo_hide 2 = .ok (.iload_n 3, 1) := by decide +kernel
theorem d_Mo_hide_3 : decode b_Mo_hide 3 = .ok (.aload_n 0, 1) := by decide +kernel
theorem d_Mo_hide_4 : decode b_Mo_hide 4 = .ok (.getfield 139, 3) := by decide +kernel
theorem d_Mo_hide_7 : decode b_Mo_hide 7 = .ok (.if_icmp .ge 151, 3) := by decide +kernel
theorem d_Mo_hide_10 : decode b_Mo_hide 10 = .ok (.aload_n 0, 1) := by decide +kernel
theorem d_Mo_hide_11 : decode b_Mo_hide 11 = .ok (.getfield 41, 3) := by decide +kernel
theorem d_Mo_hide_14 : decode b_Mo_hide 14 = .ok (.iload_n 3, 1) := by decide +kernel
theorem d_Mo_hide_15 : decode b_Mo_hide 15 = .ok (.iaload, 1) := by decide +kernel
theorem d_Mo_hide_16 : decode b_Mo_hide 16 = .ok (.iload_n 1, 1) := by decide +kernel
theorem d_Mo_hide_17 : decode b_Mo_hide 17 = .ok (.if_icmp .ne 135, 3) := by decide +kernel
theorem d_Mo_hide_20 : decode b_Mo_hide 20 = .ok (.aload_n 0, 1) := by decide +kernel
theorem d_Mo_hide_21 : decode b_Mo_hide 21 = .ok (.getfield 44, 3) := by decide +kernel
theorem d_Mo_hide_24 : decode b_Mo_hide 24 = .ok (.iload_n 3, 1) := by decide +kernel
theorem d_Mo_hide_25 : decode b_Mo_hide 25 = .ok (.iaload, 1) := by decide +kernel
theorem d_Mo_hide_26 : decode b_Mo_hide 26 = .ok (.iload_n 2, 1) := by decide +kernel
theorem d_Mo_hide_27 : decode b_Mo_hide 27 = .ok (.if_icmp .eq 6, 3) := by decide +kernel
theorem d_Mo_hide_30 : decode b_Mo_hide 30 = .ok (.goto 122, 3) := by decide +kernel
theorem d_Mo_hide_33 : decode b_Mo_hide 33 = .ok (.aload_n 0, 1) := by decide +kernel
theorem d_Mo_hide_34 : decode b_Mo_hide 34 = .ok (.dup, 1) := by decide +kernel
theorem d_Mo_hide_35 : decode b_Mo_hide 35 = .ok (.getfield 139, 3) := by decide +kernel
theorem d_Mo_hide_38 : decode b_Mo_hide 38 = .ok (.iconst 1, 1) := by decide +kernel
theorem d_Mo_hide_39 : decode b_Mo_hide 39 = .ok (.isub, 1) := by decide +kernel
theorem d_Mo_hide_40 : decode b_Mo_hide 40 = .ok (.putfield 139, 3) := by decide +kernel
theorem d_Mo_hide_43 : decode b_Mo_hide 43 = .ok (.aload_n 0, 1) := by decide +kernel
theorem d_Mo_hide_44 : decode b_Mo_hide 44 = .ok (.getfield 41, 3) := by decide +kernel
theorem d_Mo_hide_47 : decode b_Mo_hide 47 = .ok (.iload_n 3, 1) := by decide +kernel
theorem d_Mo_hide_48 : decode b_Mo_hide 48 = .ok (.aload_n 0, 1) := by decide +kernel
theorem d_Mo_hide_49 : decode b_Mo_hide 49 = .ok (.getfield 41, 3) := by decide +kernel
theorem d_Mo_hide_52 : decode b_Mo_hide 52 = .ok (.aload_n 0, 1) := by decide +kernel
theorem d_Mo_hide_53 : decode b_Mo_hide 53 = .ok (.getfield 139, 3) := by decide +kernel
theorem d_Mo_hide_56 : decode b_Mo_hide 56 = .ok (.iaload, 1) := by decide +kernel
theorem d_Mo_hide_57 : decode b_Mo_hide 57 = .ok (.iastore, 1) := by decide +kernel
theorem d_Mo_hide_58 : decode b_Mo_hide 58 = .ok (.aload_n 0, 1) := by decide +kernel
theorem d_Mo_hide_59 : decode b_Mo_hide 59 = .ok (.getfield 44, 3) := by decide +kernel
theorem d_Mo_hide_62 : decode b_Mo_hide 62 = .ok (.iload_n 3, 1) := by decide +kernel
theorem d_Mo_hide_63 : decode b_Mo_hide 63 = .ok (.aload_n 0, 1) := by decide +kernel
theorem d_Mo_hide_64 : decode b_Mo_hide 64 = .ok (.getfield 44, 3) := by decide +kernel
theorem d_Mo_hide_67 : decode b_Mo_hide 67 = .ok (.aload_n 0, 1) := by decide +kernel
theorem d_Mo_hide_68 : decode b_Mo_hide 68 = .ok (.getfield 139, 3) := by decide +kernel
theorem d_Mo_hide_71 : decode b_Mo_hide 71 = .ok (.iaload, 1) := by decide +kernel
theorem d_Mo_hide_72 : decode b_Mo_hide 72 = .ok (.iastore, 1) := by decide +kernel
theorem d_Mo_hide_73 : decode b_Mo_hide 73 = .ok (.aload_n 0, 1) := by decide +kernel
theorem d_Mo_hide_74 : decode b_Mo_hide 74 = .ok (.getfield 47, 3) := by decide +kernel
theorem d_Mo_hide_77 : decode b_Mo_hide 77 = .ok (.iload_n 3, 1) := by decide +kernel
theorem d_Mo_hide_78 : decode b_Mo_hide 78 = .ok (.aload_n 0, 1) := by decide +kernel
theorem d_Mo_hide_79 : decode b_Mo_hide 79 = .ok (.getfield 47, 3) := by decide +kernel
theorem d_Mo_hide_82 : decode b_Mo_hide 82 = .ok (.aload_n 0, 1) := by decide +kernel
theorem d_Mo_hide_83 : decode b_Mo_hide 83 = .ok (.getfield 139, 3) := by decide +kernel
theorem d_Mo_hide_86 : decode b_Mo_hide 86 = .ok (.iaload, 1) := by decide +kernel
theorem d_Mo_hide_87 : decode b_Mo_hide 87 = .ok (.iastore, 1) := by decide +kernel
theorem d_Mo_hide_88 : decode b_Mo_hide 88 = .ok (.aload_n 0, 1) := by decide +kernel
theorem d_Mo_hide_89 : decode b_Mo_hide 89 = .ok (.getfield 50, 3) := by decide +kernel
theorem d_Mo_hide_92 : decode b_Mo_hide 92 = .ok (.iload_n 3, 1) := by decide +kernel
theorem d_Mo_hide_93 : decode b_Mo_hide 93 = .ok (.aload_n 0, 1) := by decide +kernel
theorem d_Mo_hide_94 : decode b_Mo_hide 94 = .ok (.getfield 50, 3) := by decide +kernel
theorem d_Mo_hide_97 : decode b_Mo_hide 97 = .ok (.aload_n 0, 1) := by decide +kernel
theorem d_Mo_hide_98 : decode b_Mo_hide 98 = .ok (.getfield 139, 3) := by decide +kernel
theorem d_Mo_hide_101 : decode b_Mo_hide 101 = .ok (.iaload, 1) := by decide +kernel
theorem d_Mo_hide_102 : decode b_Mo_hide 102 = .ok (.iastore, 1) := by decide +kernel
theorem d_Mo_hide_103 : decode b_Mo_hide 103 = .ok (.aload_n 0, 1) := by decide +kernel
theorem d_Mo_hide_104 : decode b_Mo_hide 104 = .ok (.getfield 142, 3) := by decide +kernel
theorem d_Mo_hide_107 : decode b_Mo_hide 107 = .ok (.iconst 1, 1) := by decide +kernel
theorem d_Mo_hide_108 : decode b_Mo_hide 108 = .ok (.isub, 1) := by decide +kernel
theorem d_Mo_hide_109 : decode b_Mo_hide 109 = .ok (.istore 4, 2) := by decide +kernel
theorem d_Mo_hide_111 : decode b_Mo_hide 111 = .ok (.iload 4, 2) := by decide +kernel
theorem d_Mo_hide_113 : decode b_Mo_hide 113 = .ok (.ifCond .lt 37, 3) := by decide +kernel
theorem d_Mo_hide_116 : decode b_Mo_hide 116 = .ok (.aload_n 0, 1) := by decide +kernel
theorem d_Mo_hide_117 : decode b_Mo_hide 117 = .ok (.getfield 56, 3) := by decide +kernel
theorem d_Mo_hide_120 : decode b_Mo_hide 120 = .ok (.iload 4, 2) := by decide +kernel
theorem d_Mo_hide_122 : decode b_Mo_hide 122 = .ok (.iaload, 1) := by decide +kernel
theorem d_Mo_hide_123 : decode b_Mo_hide 123 = .ok (.iload_n 1, 1) := by decide +kernel
theorem d_Mo_hide_124 : decode b_Mo_hide 124 = .ok (.if_icmp .ne 20, 3) := by decide +kernel
theorem d_Mo_hide_127 : decode b_Mo_hide 127 = .ok (.aload_n 0, 1) := by decide +kernel
theorem d_Mo_hide_128 : decode b_Mo_hide 128 = .ok (.getfield 71, 3) := by decide +kernel
theorem d_Mo_hide_131 : decode b_Mo_hide 131 = .ok (.iload 4, 2) := by decide +kernel
theorem d_Mo_hide_133 : decode b_Mo_hide 133 = .ok (.iaload, 1) := by decide +kernel
theorem d_Mo_hide_134 : decode b_Mo_hide 134 = .ok (.iload_n 2, 1) := by decide +kernel
theorem d_Mo_hide_135 : decode b_Mo_hide 135 = .ok (.if_icmp .ne 9, 3) := by decide +kernel
theorem d_Mo_hide_138 : decode b_Mo_hide 138 = .ok (.aload_n 0, 1) := by decide +kernel
theorem d_Mo_hide_139 : decode b_Mo_hide 139 = .ok (.iload 4, 2) := by decide +kernel
theorem d_Mo_hide_141 : decode b_Mo_hide 141 = .ok (.invokevirtual 168, 3) := by decide +kernel
theorem d_Mo_hide_144 : decode b_Mo_hide 144 = .ok (.iinc 4 (-1), 3) := by decide +kernel
theorem d_Mo_hide_147 : decode b_Mo_hide 147 = .ok (.goto (-36), 3) := by decide +kernel
theorem d_Mo_hide_150 : decode b_Mo_hide 150 = .ok (.iconst 0, 1) := by decide +kernel
theorem d_Mo_hide_151 : decode b_Mo_hide 151 = .ok (.ireturn, 1) := by decide +kernel
theorem d_Mo_hide_152 : decode b_Mo_hide 152 = .ok (.iinc 3 1, 3) := by decide +kernel
theorem d_Mo_hide_155 : decode b_Mo_hide 155 = .ok (.goto (-153), 3) := by decide +kernel
theorem d_Mo_hide_158 : decode b_Mo_hide 158 = .ok (.iconst (-1), 1) := by decide +kernel
theorem d_Mo_hide_159 : decode b_Mo_hide 159 = .ok (.ireturn, 1) := by decide +kernel
theorem d_Mo_endFlow_0 : decode b_Mo_endFlow 0 = .ok (.aload_n 0, 1) := by decide +kernel
theorem d_Mo_endFlow_1 : decode b_Mo_endFlow 1 = .ok (.dup, 1) := by decide +kernel
theorem d_Mo_endFlow_2 : decode b_Mo_endFlow 2 = .ok (.getfield 142, 3) := by decide +kernel
theorem d_Mo_endFlow_5 : decode b_Mo_endFlow 5 = .ok (.iconst 1, 1) := by decide +kernel
theorem d_Mo_endFlow_6 : decode b_Mo_endFlow 6 = .ok (.isub, 1) := by decide +kernel
theorem d_Mo_endFlow_7 : decode b_Mo_endFlow 7 = .ok (.putfield 142, 3) := by decide +kernel
theorem d_Mo_endFlow_10 : decode b_Mo_endFlow 10 = .ok (.iload_n 1, 1) := by decide +kernel
theorem d_Mo_endFlow_11 : decode b_Mo_endFlow 11 = .ok (.istore_n 2, 1) := by decide +kernel
theorem d_Mo_endFlow_12 : decode b_Mo_endFlow 12 = .ok (.iload_n 2, 1) := by decide +kernel
theorem d_Mo_endFlow_13 : decode b_Mo_endFlow 13 = .ok (.aload_n 0, 1) := by decide +kernel
theorem d_Mo_endFlow_14 : decode b_Mo_endFlow 14 = .ok (.getfield 142, 3) := by decide +kernel
theorem d_Mo_endFlow_17 : decode b_Mo_endFlow 17 = .ok (.if_icmp .ge 149, 3) := by decide +kernel
theorem d_Mo_endFlow_20 : decode b_Mo_endFlow 20 = .ok (.aload_n 0, 1) := by decide +kernel
theorem d_Mo_endFlow_21 : decode b_Mo_endFlow 21 = .ok (.getfield 53, 3) := by decide +kernel
theorem d_Mo_endFlow_24 : decode b_Mo_endFlow 24 = .ok (.iload_n 2, 1) := by decide +kernel
theorem d_Mo_endFlow_25 : decode b_Mo_endFlow 25 = .ok (.aload_n 0, 1) := by decide +kernel
theorem d_Mo_endFlow_26 : decode b_Mo_endFlow 26 = .ok (.getfield 53, 3) := by decide +kernel
theorem d_Mo_endFlow_29 : decode b_Mo_endFlow 29 = .ok (.iload_n 2, 1) := by decide +kernel
theorem d_Mo_endFlow_30 : decode b_Mo_endFlow 30 = .ok (.iconst 1, 1) := by decide +kernel
theorem d_Mo_endFlow_31 : decode b_Mo_endFlow 31 = .ok (.iadd, 1) := by decide +kernel
theorem d_Mo_endFlow_32 : decode b_Mo_endFlow 32 = .ok (.iaload, 1) := by decide +kernel
theorem d_Mo_endFlow_33 : decode b_Mo_endFlow 33 = .ok (.iastore, 1) := by decide +kernel
theorem d_Mo_endFlow_34 : decode b_Mo_endFlow 34 = .ok (.aload_n 0, 1) := by decide +kernel
theorem d_Mo_endFlow_35 : decode b_Mo_endFlow 35 = .ok (.getfield 56, 3) := by decide +kernel
theorem d_Mo_endFlow_38 : decode b_Mo_endFlow 38 = .ok (.iload_n 2, 1) := by decide +kernel
theorem d_Mo_endFlow_39 : decode b_Mo_endFlow 39 = .ok (.aload_n 0, 1) := by decide +kernel
theorem d_Mo_endFlow_40 : decode b_Mo_endFlow 40 = .ok (.getfield 56, 3) := by decide +kernel
theorem d_Mo_endFlow_43 : decode b_Mo_endFlow 43 = .ok (.iload_n 2, 1) := by decide +kernel
theorem d_Mo_endFlow_44 : decode b_Mo_endFlow 44 = .ok (.iconst 1, 1) := by decide +kernel
theorem d_Mo_endFlow_45 : decode b_Mo_endFlow 45 = .ok (.iadd, 1) := by decide +kernel
theorem d_Mo_endFlow_46 : decode b_Mo_endFlow 46 = .ok (.iaload, 1) := by decide +kernel
theorem d_Mo_endFlow_47 : decode b_Mo_endFlow 47 = .ok (.iastore, 1) := by decide +kernel
theorem d_Mo_endFlow_48 : decode b_Mo_endFlow 48 = .ok (.aload_n 0, 1) := by decide +kernel
theorem d_Mo_endFlow_49 : decode b_Mo_endFlow 49 = .ok (.getfield 59, 3) := by decide +kernel
theorem d_Mo_endFlow_52 : decode b_Mo_endFlow 52 = .ok (.iload_n 2, 1) := by decide +kernel
theorem d_Mo_endFlow_53 : decode b_Mo_endFlow 53 = .ok (.aload_n 0, 1) := by decide +kernel
theorem d_Mo_endFlow_54 : decode b_Mo_endFlow 54 = .ok (.getfield 59, 3) := by decide +kernel
theorem d_Mo_endFlow_57 : decode b_Mo_endFlow 57 = .ok (.iload_n 2, 1) := by decide +kernel
theorem d_Mo_endFlow_58 : decode b_Mo_endFlow 58 = .ok (.iconst 1, 1) := by decide +kernel
theorem d_Mo_endFlow_59 : decode b_Mo_endFlow 59 = .ok (.iadd, 1) := by decide +kernel
theorem d_Mo_endFlow_60 : decode b_Mo_endFlow 60 = .ok (.iaload, 1) := by decide +kernel
theorem d_Mo_endFlow_61 : decode b_Mo_endFlow 61 = .ok (.iastore, 1) := by decide +kernel
theorem d_Mo_endFlow_62 : decode b_Mo_endFlow 62 = .ok (.aload_n 0, 1) := by decide +kernel
theorem d_Mo_endFlow_63 : decode b_Mo_endFlow 63 = .ok (.getfield 62, 3) := by decide +kernel
theorem d_Mo_endFlow_66 : decode b_Mo_endFlow 66 = .ok (.iload_n 2, 1) := by decide +kernel
theorem d_Mo_endFlow_67 : decode b_Mo_endFlow 67 = .ok (.aload_n 0, 1) := by decide +kernel
theorem d_Mo_endFlow_68 : decode b_Mo_endFlow 68 = .ok (.getfield 62, 3) := by decide +kernel
theorem d_Mo_endFlow_71 : decode b_Mo_endFlow 71 = .ok (.iload_n 2, 1) := by decide +kernel
theorem d_Mo_endFlow_72 : decode b_Mo_endFlow 72 = .ok (.iconst 1, 1) := by decide +kernel
theorem d_Mo_endFlow_73 : decode b_Mo_endFlow 73 = .ok (.iadd, 1) := by decide +kernel
theorem d_Mo_endFlow_74 : decode b_Mo_endFlow 74 = .ok (.iaload, 1) := by decide +kernel
theorem d_Mo_endFlow_75 : decode b_Mo_endFlow 75 = .ok (.iastore, 1) := by decide +kernel
theorem d_Mo_endFlow_76 : decode b_Mo_endFlow 76 = .ok (.aload_n 0, 1) := by decide +kernel
theorem d_Mo_endFlow_77 : decode b_Mo_endFlow 77 = .ok (.getfield 65, 3) := by decide +kernel
