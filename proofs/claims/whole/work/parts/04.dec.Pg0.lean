theorem d_Pg_init_0 : decode b_Pg_init 0 = .ok (.aload_n 0, 1) := by decide +kernel
theorem d_Pg_init_1 : decode b_Pg_init 1 = .ok (.invokespecial 1, 3) := by decide +kernel
theorem d_Pg_init_4 : decode b_Pg_init 4 = .ok (.aload_n 0, 1) := by decide +kernel
theorem d_Pg_init_5 : decode b_Pg_init 5 = .ok (.new 7, 3) := by decide +kernel
theorem d_Pg_init_8 : decode b_Pg_init 8 = .ok (.dup, 1) := by decide +kernel
theorem d_Pg_init_9 : decode b_Pg_init 9 = .ok (.invokespecial 9, 3) := by decide +kernel
theorem d_Pg_init_12 : decode b_Pg_init 12 = .ok (.putfield 10, 3) := by decide +kernel
theorem d_Pg_init_15 : decode b_Pg_init 15 = .ok (.aload_n 0, 1) := by decide +kernel
theorem d_Pg_init_16 : decode b_Pg_init 16 = .ok (.new 16, 3) := by decide +kernel
theorem d_Pg_init_19 : decode b_Pg_init 19 = .ok (.dup, 1) := by decide +kernel
theorem d_Pg_init_20 : decode b_Pg_init 20 = .ok (.invokespecial 18, 3) := by decide +kernel
theorem d_Pg_init_23 : decode b_Pg_init 23 = .ok (.putfield 19, 3) := by decide +kernel
theorem d_Pg_init_26 : decode b_Pg_init 26 = .ok (.aload_n 0, 1) := by decide +kernel
theorem d_Pg_init_27 : decode b_Pg_init 27 = .ok (.new 23, 3) := by decide +kernel
theorem d_Pg_init_30 : decode b_Pg_init 30 = .ok (.dup, 1) := by decide +kernel
theorem d_Pg_init_31 : decode b_Pg_init 31 = .ok (.invokespecial 25, 3) := by decide +kernel
theorem d_Pg_init_34 : decode b_Pg_init 34 = .ok (.putfield 26, 3) := by decide +kernel
theorem d_Pg_init_37 : decode b_Pg_init 37 = .ok (.aload_n 0, 1) := by decide +kernel
theorem d_Pg_init_38 : decode b_Pg_init 38 = .ok (.new 7, 3) := by decide +kernel
theorem d_Pg_init_41 : decode b_Pg_init 41 = .ok (.dup, 1) := by decide +kernel
theorem d_Pg_init_42 : decode b_Pg_init 42 = .ok (.invokespecial 9, 3) := by decide +kernel
theorem d_Pg_init_45 : decode b_Pg_init 45 = .ok (.putfield 30, 3) := by decide +kernel
theorem d_Pg_init_48 : decode b_Pg_init 48 = .ok (.aload_n 0, 1) := by decide +kernel
theorem d_Pg_init_49 : decode b_Pg_init 49 = .ok (.new 33, 3) := by decide +kernel
theorem d_Pg_init_52 : decode b_Pg_init 52 = .ok (.dup, 1) := by decide +kernel
theorem d_Pg_init_53 : decode b_Pg_init 53 = .ok (.invokespecial 35, 3) := by decide +kernel
theorem d_Pg_init_56 : decode b_Pg_init 56 = .ok (.putfield 36, 3) := by decide +kernel
theorem d_Pg_init_59 : decode b_Pg_init 59 = .ok (.aload_n 0, 1) := by decide +kernel
theorem d_Pg_init_60 : decode b_Pg_init 60 = .ok (.new 40, 3) := by decide +kernel
theorem d_Pg_init_63 : decode b_Pg_init 63 = .ok (.dup, 1) := by decide +kernel
theorem d_Pg_init_64 : decode b_Pg_init 64 = .ok (.invokespecial 42, 3) := by decide +kernel
theorem d_Pg_init_67 : decode b_Pg_init 67 = .ok (.putfield 43, 3) := by decide +kernel
theorem d_Pg_init_70 : decode b_Pg_init 70 = .ok (.aload_n 0, 1) := by decide +kernel
theorem d_Pg_init_71 : decode b_Pg_init 71 = .ok (.iconst 4, 1) := by decide +kernel
theorem d_Pg_init_72 : decode b_Pg_init 72 = .ok (.newarray .int, 2) := by decide +kernel
theorem d_Pg_init_74 : decode b_Pg_init 74 = .ok (.putfield 47, 3) := by decide +kernel
theorem d_Pg_init_77 : decode b_Pg_init 77 = .ok (.aload_n 0, 1) := by decide +kernel
theorem d_Pg_init_78 : decode b_Pg_init 78 = .ok (.new 51, 3) := by decide +kernel
theorem d_Pg_init_81 : decode b_Pg_init 81 = .ok (.dup, 1) := by decide +kernel
theorem d_Pg_init_82 : decode b_Pg_init 82 = .ok (.invokespecial 53, 3) := by decide +kernel
theorem d_Pg_init_85 : decode b_Pg_init 85 = .ok (.putfield 54, 3) := by decide +kernel
theorem d_Pg_init_88 : decode b_Pg_init 88 = .ok (.aload_n 0, 1) := by decide +kernel
theorem d_Pg_init_89 : decode b_Pg_init 89 = .ok (.getfield 54, 3) := by decide +kernel
theorem d_Pg_init_92 : decode b_Pg_init 92 = .ok (.iconst 1, 1) := by decide +kernel
theorem d_Pg_init_93 : decode b_Pg_init 93 = .ok (.invokevirtual 58, 3) := by decide +kernel
theorem d_Pg_init_96 : decode b_Pg_init 96 = .ok (.aload_n 0, 1) := by decide +kernel
theorem d_Pg_init_97 : decode b_Pg_init 97 = .ok (.new 51, 3) := by decide +kernel
theorem d_Pg_init_100 : decode b_Pg_init 100 = .ok (.dup, 1) := by decide +kernel
theorem d_Pg_init_101 : decode b_Pg_init 101 = .ok (.invokespecial 53, 3) := by decide +kernel
theorem d_Pg_init_104 : decode b_Pg_init 104 = .ok (.putfield 62, 3) := by decide +kernel
theorem d_Pg_init_107 : decode b_Pg_init 107 = .ok (.aload_n 0, 1) := by decide +kernel
theorem d_Pg_init_108 : decode b_Pg_init 108 = .ok (.iconst 0, 1) := by decide +kernel
theorem d_Pg_init_109 : decode b_Pg_init 109 = .ok (.putfield 65, 3) := by decide +kernel
theorem d_Pg_init_112 : decode b_Pg_init 112 = .ok (.aload_n 0, 1) := by decide +kernel
theorem d_Pg_init_113 : decode b_Pg_init 113 = .ok (.iconst 0, 1) := by decide +kernel
theorem d_Pg_init_114 : decode b_Pg_init 114 = .ok (.putfield 69, 3) := by decide +kernel
theorem d_Pg_init_117 : decode b_Pg_init 117 = .ok (.aload_n 0, 1) := by decide +kernel
theorem d_Pg_init_118 : decode b_Pg_init 118 = .ok (.iconst 0, 1) := by decide +kernel
theorem d_Pg_init_119 : decode b_Pg_init 119 = .ok (.putfield 72, 3) := by decide +kernel
theorem d_Pg_init_122 : decode b_Pg_init 122 = .ok (.aload_n 0, 1) := by decide +kernel
theorem d_Pg_init_123 : decode b_Pg_init 123 = .ok (.iconst 0, 1) := by decide +kernel
theorem d_Pg_init_124 : decode b_Pg_init 124 = .ok (.putfield 75, 3) := by decide +kernel
theorem d_Pg_init_127 : decode b_Pg_init 127 = .ok (.aload_n 0, 1) := by decide +kernel
theorem d_Pg_init_128 : decode b_Pg_init 128 = .ok (.iconst 0, 1) := by decide +kernel
theorem d_Pg_init_129 : decode b_Pg_init 129 = .ok (.putfield 78, 3) := by decide +kernel
theorem d_Pg_init_132 : decode b_Pg_init 132 = .ok (.aload_n 0, 1) := by decide +kernel
theorem d_Pg_init_133 : decode b_Pg_init 133 = .ok (.iconst (-1), 1) := by decide +kernel
theorem d_Pg_init_134 : decode b_Pg_init 134 = .ok (.putfield 81, 3) := by decide +kernel
theorem d_Pg_init_137 : decode b_Pg_init 137 = .ok (.return_, 1) := by decide +kernel
theorem d_Pg_type_0 : decode b_Pg_type 0 = .ok (.iload_n 1, 1) := by decide +kernel
theorem d_Pg_type_1 : decode b_Pg_type 1 = .ok (.invokestatic 84, 3) := by decide +kernel
theorem d_Pg_type_4 : decode b_Pg_type 4 = .ok (.ifCond .ne 5, 3) := by decide +kernel
theorem d_Pg_type_7 : decode b_Pg_type 7 = .ok (.iconst (-1), 1) := by decide +kernel
theorem d_Pg_type_8 : decode b_Pg_type 8 = .ok (.ireturn, 1) := by decide +kernel
theorem d_Pg_type_9 : decode b_Pg_type 9 = .ok (.aload_n 0, 1) := by decide +kernel
theorem d_Pg_type_10 : decode b_Pg_type 10 = .ok (.getfield 10, 3) := by decide +kernel
theorem d_Pg_type_13 : decode b_Pg_type 13 = .ok (.invokevirtual 88, 3) := by decide +kernel
theorem d_Pg_type_16 : decode b_Pg_type 16 = .ok (.ifCond .eq 6, 3) := by decide +kernel
theorem d_Pg_type_19 : decode b_Pg_type 19 = .ok (.bipush (-3), 2) := by decide +kernel
theorem d_Pg_type_21 : decode b_Pg_type 21 = .ok (.ireturn, 1) := by decide +kernel
theorem d_Pg_type_22 : decode b_Pg_type 22 = .ok (.aload_n 0, 1) := by decide +kernel
theorem d_Pg_type_23 : decode b_Pg_type 23 = .ok (.getfield 10, 3) := by decide +kernel
theorem d_Pg_type_26 : decode b_Pg_type 26 = .ok (.iload_n 1, 1) := by decide +kernel
theorem d_Pg_type_27 : decode b_Pg_type 27 = .ok (.i2c, 1) := by decide +kernel
theorem d_Pg_type_28 : decode b_Pg_type 28 = .ok (.invokevirtual 92, 3) := by decide +kernel
theorem d_Pg_type_31 : decode b_Pg_type 31 = .ok (.aload_n 0, 1) := by decide +kernel
theorem d_Pg_type_32 : decode b_Pg_type 32 = .ok (.getfield 10, 3) := by decide +kernel
theorem d_Pg_type_35 : decode b_Pg_type 35 = .ok (.getfield 96, 3) := by decide +kernel
theorem d_Pg_type_38 : decode b_Pg_type 38 = .ok (.ireturn, 1) := by decide +kernel
theorem d_Pg_isWithin_0 : decode b_Pg_isWithin 0 = .ok (.iload_n 0, 1) := by decide +kernel
theorem d_Pg_isWithin_1 : decode b_Pg_isWithin 1 = .ok (.ifCond .lt 12, 3) := by decide +kernel
theorem d_Pg_isWithin_4 : decode b_Pg_isWithin 4 = .ok (.iload_n 0, 1) := by decide +kernel
theorem d_Pg_isWithin_5 : decode b_Pg_isWithin 5 = .ok (.iload_n 1, 1) := by decide +kernel
theorem d_Pg_isWithin_6 : decode b_Pg_isWithin 6 = .ok (.if_icmp .gt 7, 3) := by decide +kernel
theorem d_Pg_isWithin_9 : decode b_Pg_isWithin 9 = .ok (.iconst 1, 1) := by decide +kernel
theorem d_Pg_isWithin_10 : decode b_Pg_isWithin 10 = .ok (.goto 4, 3) := by decide +kernel
theorem d_Pg_isWithin_13 : decode b_Pg_isWithin 13 = .ok (.iconst 0, 1) := by decide +kernel
theorem d_Pg_isWithin_14 : decode b_Pg_isWithin 14 = .ok (.ireturn, 1) := by decide +kernel
theorem d_Pg_install_0 : decode b_Pg_install 0 = .ok (.aload_n 0, 1) := by decide +kernel
theorem d_Pg_install_1 : decode b_Pg_install 1 = .ok (.getfield 26, 3) := by decide +kernel
theorem d_Pg_install_4 : decode b_Pg_install 4 = .ok (.invokevirtual 99, 3) := by decide +kernel
theorem d_Pg_install_7 : decode b_Pg_install 7 = .ok (.ifCond .eq 8, 3) := by decide +kernel
theorem d_Pg_install_10 : decode b_Pg_install 10 = .ok (.bipush (-3), 2) := by decide +kernel
theorem d_Pg_install_12 : decode b_Pg_install 12 = .ok (.goto 7, 3) := by decide +kernel
theorem d_Pg_install_15 : decode b_Pg_install 15 = .ok (.aload_n 0, 1) := by decide +kernel
theorem d_Pg_install_16 : decode b_Pg_install 16 = .ok (.invokevirtual 100, 3) := by decide +kernel
theorem d_Pg_install_19 : decode b_Pg_install 19 = .ok (.istore_n 1, 1) := by decide +kernel
theorem d_Pg_install_20 : decode b_Pg_install 20 = .ok (.aload_n 0, 1) := by decide +kernel
theorem d_Pg_install_21 : decode b_Pg_install 21 = .ok (.getfield 10, 3) := by decide +kernel
theorem d_Pg_install_24 : decode b_Pg_install 24 = .ok (.invokevirtual 104, 3) := by decide +kernel
theorem d_Pg_install_27 : decode b_Pg_install 27 = .ok (.iload_n 1, 1) := by decide +kernel
theorem d_Pg_install_28 : decode b_Pg_install 28 = .ok (.ireturn, 1) := by decide +kernel
theorem d_Pg_installLine_0 : decode b_Pg_installLine 0 = .ok (.aload_n 0, 1) := by decide +kernel
theorem d_Pg_installLine_1 : decode b_Pg_installLine 1 = .ok (.getfield 19, 3) := by decide +kernel
theorem d_Pg_installLine_4 : decode b_Pg_installLine 4 = .ok (.aload_n 0, 1) := by decide +kernel
theorem d_Pg_installLine_5 : decode b_Pg_installLine 5 = .ok (.getfield 10, 3) := by decide +kernel
theorem d_Pg_installLine_8 : decode b_Pg_installLine 8 = .ok (.aload_n 0, 1) := by decide +kernel
theorem d_Pg_installLine_9 : decode b_Pg_installLine 9 = .ok (.getfield 26, 3) := by decide +kernel
theorem d_Pg_installLine_12 : decode b_Pg_installLine 12 = .ok (.invokevirtual 107, 3) := by decide +kernel
theorem d_Pg_installLine_15 : decode b_Pg_installLine 15 = .ok (.invokevirtual 111, 3) := by decide +kernel
theorem d_Pg_installLine_18 : decode b_Pg_installLine 18 = .ok (.ifCond .ne 17, 3) := by decide +kernel
theorem d_Pg_installLine_21 : decode b_Pg_installLine 21 = .ok (.aload_n 0, 1) := by decide +kernel
theorem d_Pg_installLine_22 : decode b_Pg_installLine 22 = .ok (.aload_n 0, 1) := by decide +kernel
theorem d_Pg_installLine_23 : decode b_Pg_installLine 23 = .ok (.getfield 19, 3) := by decide +kernel
theorem d_Pg_installLine_26 : decode b_Pg_installLine 26 = .ok (.getfield 115, 3) := by decide +kernel
theorem d_Pg_installLine_29 : decode b_Pg_installLine 29 = .ok (.putfield 81, 3) := by decide +kernel
theorem d_Pg_installLine_32 : decode b_Pg_installLine 32 = .ok (.bipush (-2), 2) := by decide +kernel
theorem d_Pg_installLine_34 : decode b_Pg_installLine 34 = .ok (.ireturn, 1) := by decide +kernel
theorem d_Pg_installLine_35 : decode b_Pg_installLine 35 = .ok (.aload_n 0, 1) := by decide +kernel
theorem d_Pg_installLine_36 : decode b_Pg_installLine 36 = .ok (.getfield 26, 3) := by decide +kernel
theorem d_Pg_installLine_39 : decode b_Pg_installLine 39 = .ok (.invokevirtual 118, 3) := by decide +kernel
theorem d_Pg_installLine_42 : decode b_Pg_installLine 42 = .ok (.ireturn, 1) := by decide +kernel
theorem d_Pg_withdraw_0 : decode b_Pg_withdraw 0 = .ok (.aload_n 0, 1) := by decide +kernel
theorem d_Pg_withdraw_1 : decode b_Pg_withdraw 1 = .ok (.getfield 26, 3) := by decide +kernel
theorem d_Pg_withdraw_4 : decode b_Pg_withdraw 4 = .ok (.iload_n 1, 1) := by decide +kernel
theorem d_Pg_withdraw_5 : decode b_Pg_withdraw 5 = .ok (.invokevirtual 121, 3) := by decide +kernel
theorem d_Pg_withdraw_8 : decode b_Pg_withdraw 8 = .ok (.ifCond .ne 5, 3) := by decide +kernel
theorem d_Pg_withdraw_11 : decode b_Pg_withdraw 11 = .ok (.iconst (-1), 1) := by decide +kernel
theorem d_Pg_withdraw_12 : decode b_Pg_withdraw 12 = .ok (.ireturn, 1) := by decide +kernel
theorem d_Pg_withdraw_13 : decode b_Pg_withdraw 13 = .ok (.aload_n 0, 1) := by decide +kernel
theorem d_Pg_withdraw_14 : decode b_Pg_withdraw 14 = .ok (.getfield 26, 3) := by decide +kernel
theorem d_Pg_withdraw_17 : decode b_Pg_withdraw 17 = .ok (.iload_n 1, 1) := by decide +kernel
theorem d_Pg_withdraw_18 : decode b_Pg_withdraw 18 = .ok (.invokevirtual 124, 3) := by decide +kernel
theorem d_Pg_withdraw_21 : decode b_Pg_withdraw 21 = .ok (.aload_n 0, 1) := by decide +kernel
theorem d_Pg_withdraw_22 : decode b_Pg_withdraw 22 = .ok (.getfield 26, 3) := by decide +kernel
theorem d_Pg_withdraw_25 : decode b_Pg_withdraw 25 = .ok (.getfield 127, 3) := by decide +kernel
theorem d_Pg_withdraw_28 : decode b_Pg_withdraw 28 = .ok (.ireturn, 1) := by decide +kernel
theorem d_Pg_ruleText_0 : decode b_Pg_ruleText 0 = .ok (.aload_n 0, 1) := by decide +kernel
theorem d_Pg_ruleText_1 : decode b_Pg_ruleText 1 = .ok (.getfield 26, 3) := by decide +kernel
theorem d_Pg_ruleText_4 : decode b_Pg_ruleText 4 = .ok (.iload_n 1, 1) := by decide +kernel
theorem d_Pg_ruleText_5 : decode b_Pg_ruleText 5 = .ok (.invokevirtual 121, 3) := by decide +kernel
theorem d_Pg_ruleText_8 : decode b_Pg_ruleText 8 = .ok (.ifCond .eq 7, 3) := by decide +kernel
theorem d_Pg_ruleText_11 : decode b_Pg_ruleText 11 = .ok (.iload_n 2, 1) := by decide +kernel
theorem d_Pg_ruleText_12 : decode b_Pg_ruleText 12 = .ok (.ifCond .ge 5, 3) := by decide +kernel
theorem d_Pg_ruleText_15 : decode b_Pg_ruleText 15 = .ok (.iconst (-1), 1) := by decide +kernel
theorem d_Pg_ruleText_16 : decode b_Pg_ruleText 16 = .ok (.ireturn, 1) := by decide +kernel
theorem d_Pg_ruleText_17 : decode b_Pg_ruleText 17 = .ok (.aload_n 0, 1) := by decide +kernel
theorem d_Pg_ruleText_18 : decode b_Pg_ruleText 18 = .ok (.getfield 26, 3) := by decide +kernel
theorem d_Pg_ruleText_21 : decode b_Pg_ruleText 21 = .ok (.iload_n 1, 1) := by decide +kernel
theorem d_Pg_ruleText_22 : decode b_Pg_ruleText 22 = .ok (.invokevirtual 130, 3) := by decide +kernel
theorem d_Pg_ruleText_25 : decode b_Pg_ruleText 25 = .ok (.aload_n 0, 1) := by decide +kernel
theorem d_Pg_ruleText_26 : decode b_Pg_ruleText 26 = .ok (.getfield 30, 3) := by decide +kernel
theorem d_Pg_ruleText_29 : decode b_Pg_ruleText 29 = .ok (.invokevirtual 134, 3) := by decide +kernel
theorem d_Pg_ruleText_32 : decode b_Pg_ruleText 32 = .ok (.iload_n 2, 1) := by decide +kernel
theorem d_Pg_ruleText_33 : decode b_Pg_ruleText 33 = .ok (.aload_n 0, 1) := by decide +kernel
theorem d_Pg_ruleText_34 : decode b_Pg_ruleText 34 = .ok (.getfield 30, 3) := by decide +kernel
theorem d_Pg_ruleText_37 : decode b_Pg_ruleText 37 = .ok (.getfield 96, 3) := by decide +kernel
theorem d_Pg_ruleText_40 : decode b_Pg_ruleText 40 = .ok (.if_icmp .ge 14, 3) := by decide +kernel
theorem d_Pg_ruleText_43 : decode b_Pg_ruleText 43 = .ok (.aload_n 0, 1) := by decide +kernel
theorem d_Pg_ruleText_44 : decode b_Pg_ruleText 44 = .ok (.getfield 30, 3) := by decide +kernel
theorem d_Pg_ruleText_47 : decode b_Pg_ruleText 47 = .ok (.iload_n 2, 1) := by decide +kernel
theorem d_Pg_ruleText_48 : decode b_Pg_ruleText 48 = .ok (.invokevirtual 140, 3) := by decide +kernel
theorem d_Pg_ruleText_51 : decode b_Pg_ruleText 51 = .ok (.goto 4, 3) := by decide +kernel
theorem d_Pg_ruleText_54 : decode b_Pg_ruleText 54 = .ok (.iconst 0, 1) := by decide +kernel
theorem d_Pg_ruleText_55 : decode b_Pg_ruleText 55 = .ok (.ireturn, 1) := by decide +kernel
theorem d_Pg_expose_0 : decode b_Pg_expose 0 = .ok (.iload_n 1, 1) := by decide +kernel
theorem d_Pg_expose_1 : decode b_Pg_expose 1 = .ok (.invokestatic 144, 3) := by decide +kernel
theorem d_Pg_expose_4 : decode b_Pg_expose 4 = .ok (.ifCond .eq 32, 3) := by decide +kernel
theorem d_Pg_expose_7 : decode b_Pg_expose 7 = .ok (.iload_n 2, 1) := by decide +kernel
theorem d_Pg_expose_8 : decode b_Pg_expose 8 = .ok (.bipush 99, 2) := by decide +kernel
theorem d_Pg_expose_10 : decode b_Pg_expose 10 = .ok (.invokestatic 147, 3) := by decide +kernel
theorem d_Pg_expose_13 : decode b_Pg_expose 13 = .ok (.ifCond .eq 23, 3) := by decide +kernel
theorem d_Pg_expose_16 : decode b_Pg_expose 16 = .ok (.iload_n 3, 1) := by decide +kernel
theorem d_Pg_expose_17 : decode b_Pg_expose 17 = .ok (.bipush 127, 2) := by decide +kernel
theorem d_Pg_expose_19 : decode b_Pg_expose 19 = .ok (.invokestatic 147, 3) := by decide +kernel
theorem d_Pg_expose_22 : decode b_Pg_expose 22 = .ok (.ifCond .eq 14, 3) := by decide +kernel
theorem d_Pg_expose_25 : decode b_Pg_expose 25 = .ok (.iload 4, 2) := by decide +kernel
theorem d_Pg_expose_27 : decode b_Pg_expose 27 = .ok (.sipush 255, 3) := by decide +kernel
theorem d_Pg_expose_30 : decode b_Pg_expose 30 = .ok (.invokestatic 147, 3) := by decide +kernel
theorem d_Pg_expose_33 : decode b_Pg_expose 33 = .ok (.ifCond .ne 5, 3) := by decide +kernel
theorem d_Pg_expose_36 : decode b_Pg_expose 36 = .ok (.iconst (-1), 1) := by decide +kernel
theorem d_Pg_expose_37 : decode b_Pg_expose 37 = .ok (.ireturn, 1) := by decide +kernel
theorem d_Pg_expose_38 : decode b_Pg_expose 38 = .ok (.iload_n 3, 1) := by decide +kernel
theorem d_Pg_expose_39 : decode b_Pg_expose 39 = .ok (.iload 4, 2) := by decide +kernel
theorem d_Pg_expose_41 : decode b_Pg_expose 41 = .ok (.invokestatic 151, 3) := by decide +kernel
theorem d_Pg_expose_44 : decode b_Pg_expose 44 = .ok (.istore 5, 2) := by decide +kernel
theorem d_Pg_expose_46 : decode b_Pg_expose 46 = .ok (.aload_n 0, 1) := by decide +kernel
theorem d_Pg_expose_47 : decode b_Pg_expose 47 = .ok (.iload_n 1, 1) := by decide +kernel
theorem d_Pg_expose_48 : decode b_Pg_expose 48 = .ok (.iload_n 2, 1) := by decide +kernel
theorem d_Pg_expose_49 : decode b_Pg_expose 49 = .ok (.invokevirtual 155, 3) := by decide +kernel
theorem d_Pg_expose_52 : decode b_Pg_expose 52 = .ok (.iconst (-1), 1) := by decide +kernel
theorem d_Pg_expose_53 : decode b_Pg_expose 53 = .ok (.if_icmp .ne 14, 3) := by decide +kernel
theorem d_Pg_expose_56 : decode b_Pg_expose 56 = .ok (.aload_n 0, 1) := by decide +kernel
theorem d_Pg_expose_57 : decode b_Pg_expose 57 = .ok (.iload_n 1, 1) := by decide +kernel
theorem d_Pg_expose_58 : decode b_Pg_expose 58 = .ok (.iload 5, 2) := by decide +kernel
theorem d_Pg_expose_60 : decode b_Pg_expose 60 = .ok (.invokevirtual 158, 3) := by decide +kernel
theorem d_Pg_expose_63 : decode b_Pg_expose 63 = .ok (.iconst (-1), 1) := by decide +kernel
theorem d_Pg_expose_64 : decode b_Pg_expose 64 = .ok (.if_icmp .eq 6, 3) := by decide +kernel
theorem d_Pg_expose_67 : decode b_Pg_expose 67 = .ok (.bipush (-6), 2) := by decide +kernel
theorem d_Pg_expose_69 : decode b_Pg_expose 69 = .ok (.ireturn, 1) := by decide +kernel
theorem d_Pg_expose_70 : decode b_Pg_expose 70 = .ok (.aload_n 0, 1) := by decide +kernel
theorem d_Pg_expose_71 : decode b_Pg_expose 71 = .ok (.getfield 36, 3) := by decide +kernel
theorem d_Pg_expose_74 : decode b_Pg_expose 74 = .ok (.invokevirtual 161, 3) := by decide +kernel
theorem d_Pg_expose_77 : decode b_Pg_expose 77 = .ok (.ifCond .eq 6, 3) := by decide +kernel
theorem d_Pg_expose_80 : decode b_Pg_expose 80 = .ok (.bipush (-3), 2) := by decide +kernel
theorem d_Pg_expose_82 : decode b_Pg_expose 82 = .ok (.ireturn, 1) := by decide +kernel
theorem d_Pg_expose_83 : decode b_Pg_expose 83 = .ok (.aload_n 0, 1) := by decide +kernel
theorem d_Pg_expose_84 : decode b_Pg_expose 84 = .ok (.getfield 36, 3) := by decide +kernel
theorem d_Pg_expose_87 : decode b_Pg_expose 87 = .ok (.iload_n 1, 1) := by decide +kernel
theorem d_Pg_expose_88 : decode b_Pg_expose 88 = .ok (.iload_n 2, 1) := by decide +kernel
theorem d_Pg_expose_89 : decode b_Pg_expose 89 = .ok (.iload 5, 2) := by decide +kernel
theorem d_Pg_expose_91 : decode b_Pg_expose 91 = .ok (.invokevirtual 162, 3) := by decide +kernel
theorem d_Pg_expose_94 : decode b_Pg_expose 94 = .ok (.iconst 0, 1) := by decide +kernel
theorem d_Pg_expose_95 : decode b_Pg_expose 95 = .ok (.ireturn, 1) := by decide +kernel
theorem d_Pg_isProtocol_0 : decode b_Pg_isProtocol 0 = .ok (.iload_n 0, 1) := by decide +kernel
theorem d_Pg_isProtocol_1 : decode b_Pg_isProtocol 1 = .ok (.iconst 2, 1) := by decide +kernel
theorem d_Pg_isProtocol_2 : decode b_Pg_isProtocol 2 = .ok (.invokestatic 147, 3) := by decide +kernel
theorem d_Pg_isProtocol_5 : decode b_Pg_isProtocol 5 = .ok (.ireturn, 1) := by decide +kernel
theorem d_Pg_endpoint_0 : decode b_Pg_endpoint 0 = .ok (.iload_n 0, 1) := by decide +kernel
theorem d_Pg_endpoint_1 : decode b_Pg_endpoint 1 = .ok (.sipush 256, 3) := by decide +kernel
theorem d_Pg_endpoint_4 : decode b_Pg_endpoint 4 = .ok (.imul, 1) := by decide +kernel
theorem d_Pg_endpoint_5 : decode b_Pg_endpoint 5 = .ok (.iload_n 1, 1) := by decide +kernel
theorem d_Pg_endpoint_6 : decode b_Pg_endpoint 6 = .ok (.iadd, 1) := by decide +kernel
theorem d_Pg_endpoint_7 : decode b_Pg_endpoint 7 = .ok (.ireturn, 1) := by decide +kernel
theorem d_Pg_mappedEndpoint_0 : decode b_Pg_mappedEndpoint 0 = .ok (.aload_n 0, 1) := by decide +kernel
theorem d_Pg_mappedEndpoint_1 : decode b_Pg_mappedEndpoint 1 = .ok (.getfield 36, 3) := by decide +kernel
theorem d_Pg_mappedEndpoint_4 : decode b_Pg_mappedEndpoint 4 = .ok (.iload_n 1, 1) := by decide +kernel
theorem d_Pg_mappedEndpoint_5 : decode b_Pg_mappedEndpoint 5 = .ok (.iload_n 2, 1) := by decide +kernel
theorem d_Pg_mappedEndpoint_6 : decode b_Pg_mappedEndpoint 6 = .ok (.invokevirtual 287, 3) := by decide +kernel
theorem d_Pg_mappedEndpoint_9 : decode b_Pg_mappedEndpoint 9 = .ok (.istore_n 3, 1) := by decide +kernel
theorem d_Pg_mappedEndpoint_10 : decode b_Pg_mappedEndpoint 10 = .ok (.iload_n 3, 1) := by decide +kernel
theorem d_Pg_mappedEndpoint_11 : decode b_Pg_mappedEndpoint 11 = .ok (.iconst (-1), 1) := by decide +kernel
theorem d_Pg_mappedEndpoint_12 : decode b_Pg_mappedEndpoint 12 = .ok (.if_icmp .eq 7, 3) := by decide +kernel
theorem d_Pg_mappedEndpoint_15 : decode b_Pg_mappedEndpoint 15 = .ok (.iload_n 3, 1) := by decide +kernel
theorem d_Pg_mappedEndpoint_16 : decode b_Pg_mappedEndpoint 16 = .ok (.goto 12, 3) := by decide +kernel
theorem d_Pg_mappedEndpoint_19 : decode b_Pg_mappedEndpoint 19 = .ok (.aload_n 0, 1) := by decide +kernel
theorem d_Pg_mappedEndpoint_20 : decode b_Pg_mappedEndpoint 20 = .ok (.getfield 43, 3) := by decide +kernel
theorem d_Pg_mappedEndpoint_23 : decode b_Pg_mappedEndpoint 23 = .ok (.iload_n 1, 1) := by decide +kernel
theorem d_Pg_mappedEndpoint_24 : decode b_Pg_mappedEndpoint 24 = .ok (.iload_n 2, 1) := by decide +kernel
theorem d_Pg_mappedEndpoint_25 : decode b_Pg_mappedEndpoint 25 = .ok (.invokevirtual 290, 3) := by decide +kernel
theorem d_Pg_mappedEndpoint_28 : decode b_Pg_mappedEndpoint 28 = .ok (.ireturn, 1) := by decide +kernel
theorem d_Pg_mappedPort_0 : decode b_Pg_mappedPort 0 = .ok (.aload_n 0, 1) := by decide +kernel
theorem d_Pg_mappedPort_1 : decode b_Pg_mappedPort 1 = .ok (.getfield 36, 3) := by decide +kernel
theorem d_Pg_mappedPort_4 : decode b_Pg_mappedPort 4 = .ok (.iload_n 1, 1) := by decide +kernel
theorem d_Pg_mappedPort_5 : decode b_Pg_mappedPort 5 = .ok (.iload_n 2, 1) := by decide +kernel
theorem d_Pg_mappedPort_6 : decode b_Pg_mappedPort 6 = .ok (.invokevirtual 283, 3) := by decide +kernel
theorem d_Pg_mappedPort_9 : decode b_Pg_mappedPort 9 = .ok (.istore_n 3, 1) := by decide +kernel
theorem d_Pg_mappedPort_10 : decode b_Pg_mappedPort 10 = .ok (.iload_n 3, 1) := by decide +kernel
theorem d_Pg_mappedPort_11 : decode b_Pg_mappedPort 11 = .ok (.iconst (-1), 1) := by decide +kernel
theorem d_Pg_mappedPort_12 : decode b_Pg_mappedPort 12 = .ok (.if_icmp .eq 7, 3) := by decide +kernel
theorem d_Pg_mappedPort_15 : decode b_Pg_mappedPort 15 = .ok (.iload_n 3, 1) := by decide +kernel
theorem d_Pg_mappedPort_16 : decode b_Pg_mappedPort 16 = .ok (.goto 12, 3) := by decide +kernel
theorem d_Pg_mappedPort_19 : decode b_Pg_mappedPort 19 = .ok (.aload_n 0, 1) := by decide +kernel
theorem d_Pg_mappedPort_20 : decode b_Pg_mappedPort 20 = .ok (.getfield 43, 3) := by decide +kernel
theorem d_Pg_mappedPort_23 : decode b_Pg_mappedPort 23 = .ok (.iload_n 1, 1) := by decide +kernel
theorem d_Pg_mappedPort_24 : decode b_Pg_mappedPort 24 = .ok (.iload_n 2, 1) := by decide +kernel
theorem d_Pg_mappedPort_25 : decode b_Pg_mappedPort 25 = .ok (.invokevirtual 286, 3) := by decide +kernel
theorem d_Pg_mappedPort_28 : decode b_Pg_mappedPort 28 = .ok (.ireturn, 1) := by decide +kernel
theorem d_Pg_hide_0 : decode b_Pg_hide 0 = .ok (.aload_n 0, 1) := by decide +kernel
theorem d_Pg_hide_1 : decode b_Pg_hide 1 = .ok (.getfield 36, 3) := by decide +kernel
theorem d_Pg_hide_4 : decode b_Pg_hide 4 = .ok (.iload_n 1, 1) := by decide +kernel
theorem d_Pg_hide_5 : decode b_Pg_hide 5 = .ok (.iload_n 2, 1) := by decide +kernel
theorem d_Pg_hide_6 : decode b_Pg_hide 6 = .ok (.invokevirtual 165, 3) := by decide +kernel
theorem d_Pg_hide_9 : decode b_Pg_hide 9 = .ok (.istore_n 3, 1) := by decide +kernel
theorem d_Pg_hide_10 : decode b_Pg_hide 10 = .ok (.iload_n 3, 1) := by decide +kernel
theorem d_Pg_hide_11 : decode b_Pg_hide 11 = .ok (.iconst (-1), 1) := by decide +kernel
theorem d_Pg_hide_12 : decode b_Pg_hide 12 = .ok (.if_icmp .ne 5, 3) := by decide +kernel
theorem d_Pg_hide_15 : decode b_Pg_hide 15 = .ok (.iconst (-1), 1) := by decide +kernel
theorem d_Pg_hide_16 : decode b_Pg_hide 16 = .ok (.ireturn, 1) := by decide +kernel
theorem d_Pg_hide_17 : decode b_Pg_hide 17 = .ok (.aload_n 0, 1) := by decide +kernel
theorem d_Pg_hide_18 : decode b_Pg_hide 18 = .ok (.getfield 36, 3) := by decide +kernel
theorem d_Pg_hide_21 : decode b_Pg_hide 21 = .ok (.iload_n 3, 1) := by decide +kernel
theorem d_Pg_hide_22 : decode b_Pg_hide 22 = .ok (.invokevirtual 168, 3) := by decide +kernel
theorem d_Pg_hide_25 : decode b_Pg_hide 25 = .ok (.aload_n 0, 1) := by decide +kernel
theorem d_Pg_hide_26 : decode b_Pg_hide 26 = .ok (.getfield 43, 3) := by decide +kernel
theorem d_Pg_hide_29 : decode b_Pg_hide 29 = .ok (.iload_n 1, 1) := by decide +kernel
theorem d_Pg_hide_30 : decode b_Pg_hide 30 = .ok (.iload_n 2, 1) := by decide +kernel
theorem d_Pg_hide_31 : decode b_Pg_hide 31 = .ok (.invokevirtual 169, 3) := by decide +kernel
theorem d_Pg_hide_34 : decode b_Pg_hide 34 = .ok (.iconst 0, 1) := by decide +kernel
theorem d_Pg_hide_35 : decode b_Pg_hide 35 = .ok (.ireturn, 1) := by decide +kernel
theorem d_Pg_header_0 : decode b_Pg_header 0 = .ok (.iload_n 1, 1) := by decide +kernel
theorem d_Pg_header_1 : decode b_Pg_header 1 = .ok (.sipush 255, 3) := by decide +kernel
theorem d_Pg_header_4 : decode b_Pg_header 4 = .ok (.invokestatic 147, 3) := by decide +kernel
theorem d_Pg_header_7 : decode b_Pg_header 7 = .ok (.ifCond .eq 34, 3) := by decide +kernel
theorem d_Pg_header_10 : decode b_Pg_header 10 = .ok (.iload_n 2, 1) := by decide +kernel
theorem d_Pg_header_11 : decode b_Pg_header 11 = .ok (.sipush 255, 3) := by decide +kernel
theorem d_Pg_header_14 : decode b_Pg_header 14 = .ok (.invokestatic 147, 3) := by decide +kernel
theorem d_Pg_header_17 : decode b_Pg_header 17 = .ok (.ifCond .eq 24, 3) := by decide +kernel
theorem d_Pg_header_20 : decode b_Pg_header 20 = .ok (.iload_n 3, 1) := by decide +kernel
theorem d_Pg_header_21 : decode b_Pg_header 21 = .ok (.sipush 255, 3) := by decide +kernel
theorem d_Pg_header_24 : decode b_Pg_header 24 = .ok (.invokestatic 147, 3) := by decide +kernel
theorem d_Pg_header_27 : decode b_Pg_header 27 = .ok (.ifCond .eq 14, 3) := by decide +kernel
theorem d_Pg_header_30 : decode b_Pg_header 30 = .ok (.iload 4, 2) := by decide +kernel
theorem d_Pg_header_32 : decode b_Pg_header 32 = .ok (.sipush 255, 3) := by decide +kernel
theorem d_Pg_header_35 : decode b_Pg_header 35 = .ok (.invokestatic 147, 3) := by decide +kernel
theorem d_Pg_header_38 : decode b_Pg_header 38 = .ok (.ifCond .ne 5, 3) := by decide +kernel
theorem d_Pg_header_41 : decode b_Pg_header 41 = .ok (.iconst (-1), 1) := by decide +kernel
theorem d_Pg_header_42 : decode b_Pg_header 42 = .ok (.ireturn, 1) := by decide +kernel
theorem d_Pg_header_43 : decode b_Pg_header 43 = .ok (.aload_n 0, 1) := by decide +kernel
theorem d_Pg_header_44 : decode b_Pg_header 44 = .ok (.iload_n 1, 1) := by decide +kernel
theorem d_Pg_header_45 : decode b_Pg_header 45 = .ok (.iload_n 2, 1) := by decide +kernel
theorem d_Pg_header_46 : decode b_Pg_header 46 = .ok (.invokestatic 151, 3) := by decide +kernel
theorem d_Pg_header_49 : decode b_Pg_header 49 = .ok (.putfield 65, 3) := by decide +kernel
theorem d_Pg_header_52 : decode b_Pg_header 52 = .ok (.aload_n 0, 1) := by decide +kernel
theorem d_Pg_header_53 : decode b_Pg_header 53 = .ok (.iload_n 3, 1) := by decide +kernel
theorem d_Pg_header_54 : decode b_Pg_header 54 = .ok (.iload 4, 2) := by decide +kernel
theorem d_Pg_header_56 : decode b_Pg_header 56 = .ok (.invokestatic 151, 3) := by decide +kernel
theorem d_Pg_header_59 : decode b_Pg_header 59 = .ok (.putfield 69, 3) := by decide +kernel
theorem d_Pg_header_62 : decode b_Pg_header 62 = .ok (.iconst 0, 1) := by decide +kernel
theorem d_Pg_header_63 : decode b_Pg_header 63 = .ok (.ireturn, 1) := by decide +kernel
theorem d_Pg_outward_0 : decode b_Pg_outward 0 = .ok (.iload_n 1, 1) := by decide +kernel
theorem d_Pg_outward_1 : decode b_Pg_outward 1 = .ok (.invokestatic 144, 3) := by decide +kernel
theorem d_Pg_outward_4 : decode b_Pg_outward 4 = .ok (.ifCond .eq 12, 3) := by decide +kernel
theorem d_Pg_outward_7 : decode b_Pg_outward 7 = .ok (.iload_n 2, 1) := by decide +kernel
theorem d_Pg_outward_8 : decode b_Pg_outward 8 = .ok (.bipush 15, 2) := by decide +kernel
theorem d_Pg_outward_10 : decode b_Pg_outward 10 = .ok (.invokestatic 147, 3) := by decide +kernel
theorem d_Pg_outward_13 : decode b_Pg_outward 13 = .ok (.ifCond .ne 5, 3) := by decide +kernel
theorem d_Pg_outward_16 : decode b_Pg_outward 16 = .ok (.iconst (-1), 1) := by decide +kernel
theorem d_Pg_outward_17 : decode b_Pg_outward 17 = .ok (.ireturn, 1) := by decide +kernel
theorem d_Pg_outward_18 : decode b_Pg_outward 18 = .ok (.aload_n 0, 1) := by decide +kernel
theorem d_Pg_outward_19 : decode b_Pg_outward 19 = .ok (.aload_n 0, 1) := by decide +kernel
theorem d_Pg_outward_20 : decode b_Pg_outward 20 = .ok (.iload_n 1, 1) := by decide +kernel
theorem d_Pg_outward_21 : decode b_Pg_outward 21 = .ok (.iload_n 2, 1) := by decide +kernel
theorem d_Pg_outward_22 : decode b_Pg_outward 22 = .ok (.invokevirtual 173, 3) := by decide +kernel
theorem d_Pg_outward_25 : decode b_Pg_outward 25 = .ok (.invokevirtual 176, 3) := by decide +kernel
theorem d_Pg_outward_28 : decode b_Pg_outward 28 = .ok (.ireturn, 1) := by decide +kernel
theorem d_Pg_passOutward_0 : decode b_Pg_passOutward 0 = .ok (.aload_n 0, 1) := by decide +kernel
theorem d_Pg_passOutward_1 : decode b_Pg_passOutward 1 = .ok (.getfield 65, 3) := by decide +kernel
theorem d_Pg_passOutward_4 : decode b_Pg_passOutward 4 = .ok (.invokestatic 180, 3) := by decide +kernel
theorem d_Pg_passOutward_7 : decode b_Pg_passOutward 7 = .ok (.ifCond .eq 13, 3) := by decide +kernel
theorem d_Pg_passOutward_10 : decode b_Pg_passOutward 10 = .ok (.aload_n 0, 1) := by decide +kernel
theorem d_Pg_passOutward_11 : decode b_Pg_passOutward 11 = .ok (.getfield 69, 3) := by decide +kernel
theorem d_Pg_passOutward_14 : decode b_Pg_passOutward 14 = .ok (.invokestatic 183, 3) := by decide +kernel
theorem d_Pg_passOutward_17 : decode b_Pg_passOutward 17 = .ok (.ifCond .ne 6, 3) := by decide +kernel
theorem d_Pg_passOutward_20 : decode b_Pg_passOutward 20 = .ok (.bipush (-5), 2) := by decide +kernel
theorem d_Pg_passOutward_22 : decode b_Pg_passOutward 22 = .ok (.ireturn, 1) := by decide +kernel
theorem d_Pg_passOutward_23 : decode b_Pg_passOutward 23 = .ok (.aload_n 0, 1) := by decide +kernel
theorem d_Pg_passOutward_24 : decode b_Pg_passOutward 24 = .ok (.getfield 43, 3) := by decide +kernel
theorem d_Pg_passOutward_27 : decode b_Pg_passOutward 27 = .ok (.iload_n 1, 1) := by decide +kernel
theorem d_Pg_passOutward_28 : decode b_Pg_passOutward 28 = .ok (.aload_n 0, 1) := by decide +kernel
theorem d_Pg_passOutward_29 : decode b_Pg_passOutward 29 = .ok (.getfield 65, 3) := by decide +kernel
theorem d_Pg_passOutward_32 : decode b_Pg_passOutward 32 = .ok (.aload_n 0, 1) := by decide +kernel
theorem d_Pg_passOutward_33 : decode b_Pg_passOutward 33 = .ok (.getfield 69, 3) := by decide +kernel
theorem d_Pg_passOutward_36 : decode b_Pg_passOutward 36 = .ok (.invokevirtual 186, 3) := by decide +kernel
theorem d_Pg_passOutward_39 : decode b_Pg_passOutward 39 = .ok (.istore_n 3, 1) := by decide +kernel
theorem d_Pg_passOutward_40 : decode b_Pg_passOutward 40 = .ok (.iload_n 3, 1) := by decide +kernel
theorem d_Pg_passOutward_41 : decode b_Pg_passOutward 41 = .ok (.iconst (-1), 1) := by decide +kernel
theorem d_Pg_passOutward_42 : decode b_Pg_passOutward 42 = .ok (.if_icmp .eq 45, 3) := by decide +kernel
theorem d_Pg_passOutward_45 : decode b_Pg_passOutward 45 = .ok (.aload_n 0, 1) := by decide +kernel
theorem d_Pg_passOutward_46 : decode b_Pg_passOutward 46 = .ok (.getfield 43, 3) := by decide +kernel
theorem d_Pg_passOutward_49 : decode b_Pg_passOutward 49 = .ok (.iload_n 3, 1) := by decide +kernel
theorem d_Pg_passOutward_50 : decode b_Pg_passOutward 50 = .ok (.invokevirtual 189, 3) := by decide +kernel
theorem d_Pg_passOutward_53 : decode b_Pg_passOutward 53 = .ok (.getfield 192, 3) := by decide +kernel
theorem d_Pg_passOutward_56 : decode b_Pg_passOutward 56 = .ok (.istore 4, 2) := by decide +kernel
theorem d_Pg_passOutward_58 : decode b_Pg_passOutward 58 = .ok (.aload_n 0, 1) := by decide +kernel
theorem d_Pg_passOutward_59 : decode b_Pg_passOutward 59 = .ok (.getfield 43, 3) := by decide +kernel
theorem d_Pg_passOutward_62 : decode b_Pg_passOutward 62 = .ok (.iload_n 3, 1) := by decide +kernel
theorem d_Pg_passOutward_63 : decode b_Pg_passOutward 63 = .ok (.iconst 1, 1) := by decide +kernel
theorem d_Pg_passOutward_64 : decode b_Pg_passOutward 64 = .ok (.iload_n 2, 1) := by decide +kernel
theorem d_Pg_passOutward_65 : decode b_Pg_passOutward 65 = .ok (.aload_n 0, 1) := by decide +kernel
theorem d_Pg_passOutward_66 : decode b_Pg_passOutward 66 = .ok (.getfield 72, 3) := by decide +kernel
theorem d_Pg_passOutward_69 : decode b_Pg_passOutward 69 = .ok (.invokevirtual 197, 3) := by decide +kernel
theorem d_Pg_passOutward_72 : decode b_Pg_passOutward 72 = .ok (.ifCond .eq 12, 3) := by decide +kernel
theorem d_Pg_passOutward_75 : decode b_Pg_passOutward 75 = .ok (.aload_n 0, 1) := by decide +kernel
theorem d_Pg_passOutward_76 : decode b_Pg_passOutward 76 = .ok (.iload 4, 2) := by decide +kernel
theorem d_Pg_passOutward_78 : decode b_Pg_passOutward 78 = .ok (.invokevirtual 201, 3) := by decide +kernel
theorem d_Pg_passOutward_81 : decode b_Pg_passOutward 81 = .ok (.goto 5, 3) := by decide +kernel
theorem d_Pg_passOutward_84 : decode b_Pg_passOutward 84 = .ok (.bipush (-6), 2) := by decide +kernel
theorem d_Pg_passOutward_86 : decode b_Pg_passOutward 86 = .ok (.ireturn, 1) := by decide +kernel
theorem d_Pg_passOutward_87 : decode b_Pg_passOutward 87 = .ok (.aload_n 0, 1) := by decide +kernel
theorem d_Pg_passOutward_88 : decode b_Pg_passOutward 88 = .ok (.getfield 26, 3) := by decide +kernel
theorem d_Pg_passOutward_91 : decode b_Pg_passOutward 91 = .ok (.iconst 1, 1) := by decide +kernel
theorem d_Pg_passOutward_92 : decode b_Pg_passOutward 92 = .ok (.iload_n 1, 1) := by decide +kernel
theorem d_Pg_passOutward_93 : decode b_Pg_passOutward 93 = .ok (.aload_n 0, 1) := by decide +kernel
theorem d_Pg_passOutward_94 : decode b_Pg_passOutward 94 = .ok (.getfield 65, 3) := by decide +kernel
theorem d_Pg_passOutward_97 : decode b_Pg_passOutward 97 = .ok (.aload_n 0, 1) := by decide +kernel
theorem d_Pg_passOutward_98 : decode b_Pg_passOutward 98 = .ok (.getfield 69, 3) := by decide +kernel
theorem d_Pg_passOutward_101 : decode b_Pg_passOutward 101 = .ok (.invokevirtual 204, 3) := by decide +kernel
theorem d_Pg_passOutward_104 : decode b_Pg_passOutward 104 = .ok (.istore 4, 2) := by decide +kernel
theorem d_Pg_passOutward_106 : decode b_Pg_passOutward 106 = .ok (.iload 4, 2) := by decide +kernel
theorem d_Pg_passOutward_108 : decode b_Pg_passOutward 108 = .ok (.iconst 1, 1) := by decide +kernel
theorem d_Pg_passOutward_109 : decode b_Pg_passOutward 109 = .ok (.if_icmp .ne 6, 3) := by decide +kernel
theorem d_Pg_passOutward_112 : decode b_Pg_passOutward 112 = .ok (.bipush (-4), 2) := by decide +kernel
theorem d_Pg_passOutward_114 : decode b_Pg_passOutward 114 = .ok (.ireturn, 1) := by decide +kernel
theorem d_Pg_passOutward_115 : decode b_Pg_passOutward 115 = .ok (.iload 4, 2) := by decide +kernel
theorem d_Pg_passOutward_117 : decode b_Pg_passOutward 117 = .ok (.iconst 2, 1) := by decide +kernel
theorem d_Pg_passOutward_118 : decode b_Pg_passOutward 118 = .ok (.if_icmp .ne 10, 3) := by decide +kernel
theorem d_Pg_passOutward_121 : decode b_Pg_passOutward 121 = .ok (.aload_n 0, 1) := by decide +kernel
theorem d_Pg_passOutward_122 : decode b_Pg_passOutward 122 = .ok (.invokevirtual 208, 3) := by decide +kernel
theorem d_Pg_passOutward_125 : decode b_Pg_passOutward 125 = .ok (.goto 9, 3) := by decide +kernel
theorem d_Pg_passOutward_128 : decode b_Pg_passOutward 128 = .ok (.aload_n 0, 1) := by decide +kernel
theorem d_Pg_passOutward_129 : decode b_Pg_passOutward 129 = .ok (.iload_n 1, 1) := by decide +kernel
theorem d_Pg_passOutward_130 : decode b_Pg_passOutward 130 = .ok (.iload_n 2, 1) := by decide +kernel
theorem d_Pg_passOutward_131 : decode b_Pg_passOutward 131 = .ok (.invokevirtual 211, 3) := by decide +kernel
theorem d_Pg_passOutward_134 : decode b_Pg_passOutward 134 = .ok (.ireturn, 1) := by decide +kernel
theorem d_Pg_isInside_0 : decode b_Pg_isInside 0 = .ok (.iload_n 0, 1) := by decide +kernel
theorem d_Pg_isInside_1 : decode b_Pg_isInside 1 = .ok (.invokestatic 227, 3) := by decide +kernel
theorem d_Pg_isInside_4 : decode b_Pg_isInside 4 = .ok (.bipush 127, 2) := by decide +kernel
theorem d_Pg_isInside_6 : decode b_Pg_isInside 6 = .ok (.if_icmp .gt 7, 3) := by decide +kernel
theorem d_Pg_isInside_9 : decode b_Pg_isInside 9 = .ok (.iconst 1, 1) := by decide +kernel
theorem d_Pg_isInside_10 : decode b_Pg_isInside 10 = .ok (.goto 4, 3) := by decide +kernel
theorem d_Pg_isInside_13 : decode b_Pg_isInside 13 = .ok (.iconst 0, 1) := by decide +kernel
theorem d_Pg_isInside_14 : decode b_Pg_isInside 14 = .ok (.ireturn, 1) := by decide +kernel
theorem d_Pg_addressOf_0 : decode b_Pg_addressOf 0 = .ok (.iload_n 0, 1) := by decide +kernel
theorem d_Pg_addressOf_1 : decode b_Pg_addressOf 1 = .ok (.sipush 256, 3) := by decide +kernel
theorem d_Pg_addressOf_4 : decode b_Pg_addressOf 4 = .ok (.idiv, 1) := by decide +kernel
theorem d_Pg_addressOf_5 : decode b_Pg_addressOf 5 = .ok (.ireturn, 1) := by decide +kernel
theorem d_Pg_isOutside_0 : decode b_Pg_isOutside 0 = .ok (.iload_n 0, 1) := by decide +kernel
theorem d_Pg_isOutside_1 : decode b_Pg_isOutside 1 = .ok (.invokestatic 180, 3) := by decide +kernel
theorem d_Pg_isOutside_4 : decode b_Pg_isOutside 4 = .ok (.ifCond .ne 17, 3) := by decide +kernel
theorem d_Pg_isOutside_7 : decode b_Pg_isOutside 7 = .ok (.iload_n 0, 1) := by decide +kernel
theorem d_Pg_isOutside_8 : decode b_Pg_isOutside 8 = .ok (.invokestatic 227, 3) := by decide +kernel
theorem d_Pg_isOutside_11 : decode b_Pg_isOutside 11 = .ok (.sipush 200, 3) := by decide +kernel
theorem d_Pg_isOutside_14 : decode b_Pg_isOutside 14 = .ok (.if_icmp .eq 7, 3) := by decide +kernel
theorem d_Pg_isOutside_17 : decode b_Pg_isOutside 17 = .ok (.iconst 1, 1) := by decide +kernel
theorem d_Pg_isOutside_18 : decode b_Pg_isOutside 18 = .ok (.goto 4, 3) := by decide +kernel
theorem d_Pg_isOutside_21 : decode b_Pg_isOutside 21 = .ok (.iconst 0, 1) := by decide +kernel
theorem d_Pg_isOutside_22 : decode b_Pg_isOutside 22 = .ok (.ireturn, 1) := by decide +kernel
theorem d_Pg_sendOut_0 : decode b_Pg_sendOut 0 = .ok (.aload_n 0, 1) := by decide +kernel
theorem d_Pg_sendOut_1 : decode b_Pg_sendOut 1 = .ok (.sipush 200, 3) := by decide +kernel
theorem d_Pg_sendOut_4 : decode b_Pg_sendOut 4 = .ok (.iload_n 1, 1) := by decide +kernel
theorem d_Pg_sendOut_5 : decode b_Pg_sendOut 5 = .ok (.aload_n 0, 1) := by decide +kernel
theorem d_Pg_sendOut_6 : decode b_Pg_sendOut 6 = .ok (.getfield 69, 3) := by decide +kernel
theorem d_Pg_sendOut_9 : decode b_Pg_sendOut 9 = .ok (.invokestatic 227, 3) := by decide +kernel
theorem d_Pg_sendOut_12 : decode b_Pg_sendOut 12 = .ok (.aload_n 0, 1) := by decide +kernel
theorem d_Pg_sendOut_13 : decode b_Pg_sendOut 13 = .ok (.getfield 69, 3) := by decide +kernel
theorem d_Pg_sendOut_16 : decode b_Pg_sendOut 16 = .ok (.invokestatic 230, 3) := by decide +kernel
theorem d_Pg_sendOut_19 : decode b_Pg_sendOut 19 = .ok (.invokevirtual 233, 3) := by decide +kernel
theorem d_Pg_sendOut_22 : decode b_Pg_sendOut 22 = .ok (.iconst 0, 1) := by decide +kernel
theorem d_Pg_sendOut_23 : decode b_Pg_sendOut 23 = .ok (.ireturn, 1) := by decide +kernel
theorem d_Pg_portOf_0 : decode b_Pg_portOf 0 = .ok (.iload_n 0, 1) := by decide +kernel
theorem d_Pg_portOf_1 : decode b_Pg_portOf 1 = .ok (.sipush 256, 3) := by decide +kernel
theorem d_Pg_portOf_4 : decode b_Pg_portOf 4 = .ok (.irem, 1) := by decide +kernel
theorem d_Pg_portOf_5 : decode b_Pg_portOf 5 = .ok (.ireturn, 1) := by decide +kernel
theorem d_Pg_emit_0 : decode b_Pg_emit 0 = .ok (.aload_n 0, 1) := by decide +kernel
theorem d_Pg_emit_1 : decode b_Pg_emit 1 = .ok (.getfield 47, 3) := by decide +kernel
theorem d_Pg_emit_4 : decode b_Pg_emit 4 = .ok (.iconst 0, 1) := by decide +kernel
theorem d_Pg_emit_5 : decode b_Pg_emit 5 = .ok (.iload_n 1, 1) := by decide +kernel
theorem d_Pg_emit_6 : decode b_Pg_emit 6 = .ok (.iastore, 1) := by decide +kernel
theorem d_Pg_emit_7 : decode b_Pg_emit 7 = .ok (.aload_n 0, 1) := by decide +kernel
theorem d_Pg_emit_8 : decode b_Pg_emit 8 = .ok (.getfield 47, 3) := by decide +kernel
theorem d_Pg_emit_11 : decode b_Pg_emit 11 = .ok (.iconst 1, 1) := by decide +kernel
theorem d_Pg_emit_12 : decode b_Pg_emit 12 = .ok (.iload_n 2, 1) := by decide +kernel
theorem d_Pg_emit_13 : decode b_Pg_emit 13 = .ok (.iastore, 1) := by decide +kernel
theorem d_Pg_emit_14 : decode b_Pg_emit 14 = .ok (.aload_n 0, 1) := by decide +kernel
theorem d_Pg_emit_15 : decode b_Pg_emit 15 = .ok (.getfield 47, 3) := by decide +kernel
theorem d_Pg_emit_18 : decode b_Pg_emit 18 = .ok (.iconst 2, 1) := by decide +kernel
theorem d_Pg_emit_19 : decode b_Pg_emit 19 = .ok (.iload_n 3, 1) := by decide +kernel
theorem d_Pg_emit_20 : decode b_Pg_emit 20 = .ok (.iastore, 1) := by decide +kernel
theorem d_Pg_emit_21 : decode b_Pg_emit 21 = .ok (.aload_n 0, 1) := by decide +kernel
theorem d_Pg_emit_22 : decode b_Pg_emit 22 = .ok (.getfield 47, 3) := by decide +kernel
theorem d_Pg_emit_25 : decode b_Pg_emit 25 = .ok (.iconst 3, 1) := by decide +kernel
theorem d_Pg_emit_26 : decode b_Pg_emit 26 = .ok (.iload 4, 2) := by decide +kernel
theorem d_Pg_emit_28 : decode b_Pg_emit 28 = .ok (.iastore, 1) := by decide +kernel
theorem d_Pg_emit_29 : decode b_Pg_emit 29 = .ok (.return_, 1) := by decide +kernel
theorem d_Pg_sealPacket_0 : decode b_Pg_sealPacket 0 = .ok (.aload_n 0, 1) := by decide +kernel
theorem d_Pg_sealPacket_1 : decode b_Pg_sealPacket 1 = .ok (.getfield 54, 3) := by decide +kernel
theorem d_Pg_sealPacket_4 : decode b_Pg_sealPacket 4 = .ok (.getfield 237, 3) := by decide +kernel
theorem d_Pg_sealPacket_7 : decode b_Pg_sealPacket 7 = .ok (.bipush 40, 2) := by decide +kernel
theorem d_Pg_sealPacket_9 : decode b_Pg_sealPacket 9 = .ok (.if_icmp .lt 6, 3) := by decide +kernel
theorem d_Pg_sealPacket_12 : decode b_Pg_sealPacket 12 = .ok (.bipush (-11), 2) := by decide +kernel
theorem d_Pg_sealPacket_14 : decode b_Pg_sealPacket 14 = .ok (.ireturn, 1) := by decide +kernel
theorem d_Pg_sealPacket_15 : decode b_Pg_sealPacket 15 = .ok (.aload_n 0, 1) := by decide +kernel
theorem d_Pg_sealPacket_16 : decode b_Pg_sealPacket 16 = .ok (.getfield 54, 3) := by decide +kernel
theorem d_Pg_sealPacket_19 : decode b_Pg_sealPacket 19 = .ok (.dup, 1) := by decide +kernel
theorem d_Pg_sealPacket_20 : decode b_Pg_sealPacket 20 = .ok (.getfield 237, 3) := by decide +kernel
theorem d_Pg_sealPacket_23 : decode b_Pg_sealPacket 23 = .ok (.iconst 1, 1) := by decide +kernel
theorem d_Pg_sealPacket_24 : decode b_Pg_sealPacket 24 = .ok (.iadd, 1) := by decide +kernel
theorem d_Pg_sealPacket_25 : decode b_Pg_sealPacket 25 = .ok (.putfield 237, 3) := by decide +kernel
theorem d_Pg_sealPacket_28 : decode b_Pg_sealPacket 28 = .ok (.aload_n 0, 1) := by decide +kernel
theorem d_Pg_sealPacket_29 : decode b_Pg_sealPacket 29 = .ok (.sipush 200, 3) := by decide +kernel
theorem d_Pg_sealPacket_32 : decode b_Pg_sealPacket 32 = .ok (.aload_n 0, 1) := by decide +kernel
theorem d_Pg_sealPacket_33 : decode b_Pg_sealPacket 33 = .ok (.getfield 54, 3) := by decide +kernel
theorem d_Pg_sealPacket_36 : decode b_Pg_sealPacket 36 = .ok (.getfield 240, 3) := by decide +kernel
theorem d_Pg_sealPacket_39 : decode b_Pg_sealPacket 39 = .ok (.sipush 250, 3) := by decide +kernel
theorem d_Pg_sealPacket_42 : decode b_Pg_sealPacket 42 = .ok (.aload_n 0, 1) := by decide +kernel
theorem d_Pg_sealPacket_43 : decode b_Pg_sealPacket 43 = .ok (.getfield 54, 3) := by decide +kernel
theorem d_Pg_sealPacket_46 : decode b_Pg_sealPacket 46 = .ok (.getfield 237, 3) := by decide +kernel
theorem d_Pg_sealPacket_49 : decode b_Pg_sealPacket 49 = .ok (.invokevirtual 233, 3) := by decide +kernel
theorem d_Pg_sealPacket_52 : decode b_Pg_sealPacket 52 = .ok (.iconst 1, 1) := by decide +kernel
theorem d_Pg_sealPacket_53 : decode b_Pg_sealPacket 53 = .ok (.ireturn, 1) := by decide +kernel
theorem d_Pg_openOutward_0 : decode b_Pg_openOutward 0 = .ok (.iload_n 1, 1) := by decide +kernel
theorem d_Pg_openOutward_1 : decode b_Pg_openOutward 1 = .ok (.iload_n 2, 1) := by decide +kernel
theorem d_Pg_openOutward_2 : decode b_Pg_openOutward 2 = .ok (.invokestatic 214, 3) := by decide +kernel
theorem d_Pg_openOutward_5 : decode b_Pg_openOutward 5 = .ok (.ifCond .ne 6, 3) := by decide +kernel
theorem d_Pg_openOutward_8 : decode b_Pg_openOutward 8 = .ok (.bipush (-6), 2) := by decide +kernel
theorem d_Pg_openOutward_10 : decode b_Pg_openOutward 10 = .ok (.ireturn, 1) := by decide +kernel
theorem d_Pg_openOutward_11 : decode b_Pg_openOutward 11 = .ok (.aload_n 0, 1) := by decide +kernel
theorem d_Pg_openOutward_12 : decode b_Pg_openOutward 12 = .ok (.getfield 43, 3) := by decide +kernel
theorem d_Pg_openOutward_15 : decode b_Pg_openOutward 15 = .ok (.invokevirtual 217, 3) := by decide +kernel
theorem d_Pg_openOutward_18 : decode b_Pg_openOutward 18 = .ok (.ifCond .eq 6, 3) := by decide +kernel
theorem d_Pg_openOutward_21 : decode b_Pg_openOutward 21 = .ok (.bipush (-7), 2) := by decide +kernel
theorem d_Pg_openOutward_23 : decode b_Pg_openOutward 23 = .ok (.ireturn, 1) := by decide +kernel
theorem d_Pg_openOutward_24 : decode b_Pg_openOutward 24 = .ok (.aload_n 0, 1) := by decide +kernel
theorem d_Pg_openOutward_25 : decode b_Pg_openOutward 25 = .ok (.iload_n 1, 1) := by decide +kernel
theorem d_Pg_openOutward_26 : decode b_Pg_openOutward 26 = .ok (.aload_n 0, 1) := by decide +kernel
theorem d_Pg_openOutward_27 : decode b_Pg_openOutward 27 = .ok (.getfield 65, 3) := by decide +kernel
theorem d_Pg_openOutward_30 : decode b_Pg_openOutward 30 = .ok (.invokevirtual 158, 3) := by decide +kernel
theorem d_Pg_openOutward_33 : decode b_Pg_openOutward 33 = .ok (.istore_n 3, 1) := by decide +kernel
theorem d_Pg_openOutward_34 : decode b_Pg_openOutward 34 = .ok (.iload_n 3, 1) := by decide +kernel
theorem d_Pg_openOutward_35 : decode b_Pg_openOutward 35 = .ok (.iconst (-1), 1) := by decide +kernel
theorem d_Pg_openOutward_36 : decode b_Pg_openOutward 36 = .ok (.if_icmp .ne 12, 3) := by decide +kernel
theorem d_Pg_openOutward_39 : decode b_Pg_openOutward 39 = .ok (.aload_n 0, 1) := by decide +kernel
theorem d_Pg_openOutward_40 : decode b_Pg_openOutward 40 = .ok (.getfield 43, 3) := by decide +kernel
theorem d_Pg_openOutward_43 : decode b_Pg_openOutward 43 = .ok (.iload_n 1, 1) := by decide +kernel
theorem d_Pg_openOutward_44 : decode b_Pg_openOutward 44 = .ok (.invokevirtual 218, 3) := by decide +kernel
theorem d_Pg_openOutward_47 : decode b_Pg_openOutward 47 = .ok (.istore_n 3, 1) := by decide +kernel
theorem d_Pg_openOutward_48 : decode b_Pg_openOutward 48 = .ok (.iload_n 3, 1) := by decide +kernel
theorem d_Pg_openOutward_49 : decode b_Pg_openOutward 49 = .ok (.iconst (-1), 1) := by decide +kernel
theorem d_Pg_openOutward_50 : decode b_Pg_openOutward 50 = .ok (.if_icmp .ne 6, 3) := by decide +kernel
theorem d_Pg_openOutward_53 : decode b_Pg_openOutward 53 = .ok (.bipush (-7), 2) := by decide +kernel
theorem d_Pg_openOutward_55 : decode b_Pg_openOutward 55 = .ok (.ireturn, 1) := by decide +kernel
theorem d_Pg_openOutward_56 : decode b_Pg_openOutward 56 = .ok (.aload_n 0, 1) := by decide +kernel
theorem d_Pg_openOutward_57 : decode b_Pg_openOutward 57 = .ok (.getfield 43, 3) := by decide +kernel
theorem d_Pg_openOutward_60 : decode b_Pg_openOutward 60 = .ok (.invokevirtual 221, 3) := by decide +kernel
theorem d_Pg_openOutward_63 : decode b_Pg_openOutward 63 = .ok (.iload_n 1, 1) := by decide +kernel
theorem d_Pg_openOutward_64 : decode b_Pg_openOutward 64 = .ok (.aload_n 0, 1) := by decide +kernel
theorem d_Pg_openOutward_65 : decode b_Pg_openOutward 65 = .ok (.getfield 65, 3) := by decide +kernel
theorem d_Pg_openOutward_68 : decode b_Pg_openOutward 68 = .ok (.aload_n 0, 1) := by decide +kernel
theorem d_Pg_openOutward_69 : decode b_Pg_openOutward 69 = .ok (.getfield 69, 3) := by decide +kernel
theorem d_Pg_openOutward_72 : decode b_Pg_openOutward 72 = .ok (.iload_n 3, 1) := by decide +kernel
theorem d_Pg_openOutward_73 : decode b_Pg_openOutward 73 = .ok (.iconst 1, 1) := by decide +kernel
theorem d_Pg_openOutward_74 : decode b_Pg_openOutward 74 = .ok (.aload_n 0, 1) := by decide +kernel
theorem d_Pg_openOutward_75 : decode b_Pg_openOutward 75 = .ok (.getfield 72, 3) := by decide +kernel
theorem d_Pg_openOutward_78 : decode b_Pg_openOutward 78 = .ok (.invokevirtual 224, 3) := by decide +kernel
theorem d_Pg_openOutward_81 : decode b_Pg_openOutward 81 = .ok (.aload_n 0, 1) := by decide +kernel
theorem d_Pg_openOutward_82 : decode b_Pg_openOutward 82 = .ok (.iload_n 3, 1) := by decide +kernel
theorem d_Pg_openOutward_83 : decode b_Pg_openOutward 83 = .ok (.invokevirtual 201, 3) := by decide +kernel
theorem d_Pg_openOutward_86 : decode b_Pg_openOutward 86 = .ok (.ireturn, 1) := by decide +kernel
theorem d_Pg_counted_0 : decode b_Pg_counted 0 = .ok (.iload_n 1, 1) := by decide +kernel
theorem d_Pg_counted_1 : decode b_Pg_counted 1 = .ok (.ifCond .lt 16, 3) := by decide +kernel
theorem d_Pg_counted_4 : decode b_Pg_counted 4 = .ok (.aload_n 0, 1) := by decide +kernel
theorem d_Pg_counted_5 : decode b_Pg_counted 5 = .ok (.dup, 1) := by decide +kernel
theorem d_Pg_counted_6 : decode b_Pg_counted 6 = .ok (.getfield 75, 3) := by decide +kernel
theorem d_Pg_counted_9 : decode b_Pg_counted 9 = .ok (.iconst 1, 1) := by decide +kernel
theorem d_Pg_counted_10 : decode b_Pg_counted 10 = .ok (.iadd, 1) := by decide +kernel
theorem d_Pg_counted_11 : decode b_Pg_counted 11 = .ok (.putfield 75, 3) := by decide +kernel
theorem d_Pg_counted_14 : decode b_Pg_counted 14 = .ok (.goto 13, 3) := by decide +kernel
theorem d_Pg_counted_17 : decode b_Pg_counted 17 = .ok (.aload_n 0, 1) := by decide +kernel
theorem d_Pg_counted_18 : decode b_Pg_counted 18 = .ok (.dup, 1) := by decide +kernel
theorem d_Pg_counted_19 : decode b_Pg_counted 19 = .ok (.getfield 78, 3) := by decide +kernel
theorem d_Pg_counted_22 : decode b_Pg_counted 22 = .ok (.iconst 1, 1) := by decide +kernel
theorem d_Pg_counted_23 : decode b_Pg_counted 23 = .ok (.iadd, 1) := by decide +kernel
theorem d_Pg_counted_24 : decode b_Pg_counted 24 = .ok (.putfield 78, 3) := by decide +kernel
theorem d_Pg_counted_27 : decode b_Pg_counted 27 = .ok (.iload_n 1, 1) := by decide +kernel
theorem d_Pg_counted_28 : decode b_Pg_counted 28 = .ok (.ireturn, 1) := by decide +kernel
theorem d_Pg_inward_0 : decode b_Pg_inward 0 = .ok (.iload_n 1, 1) := by decide +kernel
theorem d_Pg_inward_1 : decode b_Pg_inward 1 = .ok (.invokestatic 144, 3) := by decide +kernel
theorem d_Pg_inward_4 : decode b_Pg_inward 4 = .ok (.ifCond .eq 12, 3) := by decide +kernel
theorem d_Pg_inward_7 : decode b_Pg_inward 7 = .ok (.iload_n 2, 1) := by decide +kernel
theorem d_Pg_inward_8 : decode b_Pg_inward 8 = .ok (.bipush 15, 2) := by decide +kernel
theorem d_Pg_inward_10 : decode b_Pg_inward 10 = .ok (.invokestatic 147, 3) := by decide +kernel
theorem d_Pg_inward_13 : decode b_Pg_inward 13 = .ok (.ifCond .ne 5, 3) := by decide +kernel
theorem d_Pg_inward_16 : decode b_Pg_inward 16 = .ok (.iconst (-1), 1) := by decide +kernel
theorem d_Pg_inward_17 : decode b_Pg_inward 17 = .ok (.ireturn, 1) := by decide +kernel
theorem d_Pg_inward_18 : decode b_Pg_inward 18 = .ok (.aload_n 0, 1) := by decide +kernel
theorem d_Pg_inward_19 : decode b_Pg_inward 19 = .ok (.aload_n 0, 1) := by decide +kernel
theorem d_Pg_inward_20 : decode b_Pg_inward 20 = .ok (.iload_n 1, 1) := by decide +kernel
theorem d_Pg_inward_21 : decode b_Pg_inward 21 = .ok (.iload_n 2, 1) := by decide +kernel
theorem d_Pg_inward_22 : decode b_Pg_inward 22 = .ok (.invokevirtual 243, 3) := by decide +kernel
theorem d_Pg_inward_25 : decode b_Pg_inward 25 = .ok (.invokevirtual 176, 3) := by decide +kernel
theorem d_Pg_inward_28 : decode b_Pg_inward 28 = .ok (.ireturn, 1) := by decide +kernel
theorem d_Pg_passInward_0 : decode b_Pg_passInward 0 = .ok (.aload_n 0, 1) := by decide +kernel
theorem d_Pg_passInward_1 : decode b_Pg_passInward 1 = .ok (.getfield 65, 3) := by decide +kernel
theorem d_Pg_passInward_4 : decode b_Pg_passInward 4 = .ok (.invokestatic 183, 3) := by decide +kernel
theorem d_Pg_passInward_7 : decode b_Pg_passInward 7 = .ok (.ifCond .eq 16, 3) := by decide +kernel
theorem d_Pg_passInward_10 : decode b_Pg_passInward 10 = .ok (.aload_n 0, 1) := by decide +kernel
theorem d_Pg_passInward_11 : decode b_Pg_passInward 11 = .ok (.getfield 69, 3) := by decide +kernel
theorem d_Pg_passInward_14 : decode b_Pg_passInward 14 = .ok (.invokestatic 227, 3) := by decide +kernel
theorem d_Pg_passInward_17 : decode b_Pg_passInward 17 = .ok (.sipush 200, 3) := by decide +kernel
theorem d_Pg_passInward_20 : decode b_Pg_passInward 20 = .ok (.if_icmp .eq 6, 3) := by decide +kernel
theorem d_Pg_passInward_23 : decode b_Pg_passInward 23 = .ok (.bipush (-5), 2) := by decide +kernel
theorem d_Pg_passInward_25 : decode b_Pg_passInward 25 = .ok (.ireturn, 1) := by decide +kernel
theorem d_Pg_passInward_26 : decode b_Pg_passInward 26 = .ok (.aload_n 0, 1) := by decide +kernel
theorem d_Pg_passInward_27 : decode b_Pg_passInward 27 = .ok (.iload_n 1, 1) := by decide +kernel
theorem d_Pg_passInward_28 : decode b_Pg_passInward 28 = .ok (.aload_n 0, 1) := by decide +kernel
theorem d_Pg_passInward_29 : decode b_Pg_passInward 29 = .ok (.getfield 69, 3) := by decide +kernel
theorem d_Pg_passInward_32 : decode b_Pg_passInward 32 = .ok (.invokestatic 230, 3) := by decide +kernel
theorem d_Pg_passInward_35 : decode b_Pg_passInward 35 = .ok (.invokevirtual 155, 3) := by decide +kernel
theorem d_Pg_passInward_38 : decode b_Pg_passInward 38 = .ok (.istore_n 3, 1) := by decide +kernel
theorem d_Pg_passInward_39 : decode b_Pg_passInward 39 = .ok (.iload_n 3, 1) := by decide +kernel
theorem d_Pg_passInward_40 : decode b_Pg_passInward 40 = .ok (.iconst (-1), 1) := by decide +kernel
theorem d_Pg_passInward_41 : decode b_Pg_passInward 41 = .ok (.if_icmp .ne 6, 3) := by decide +kernel
theorem d_Pg_passInward_44 : decode b_Pg_passInward 44 = .ok (.bipush (-4), 2) := by decide +kernel
theorem d_Pg_passInward_46 : decode b_Pg_passInward 46 = .ok (.ireturn, 1) := by decide +kernel
theorem d_Pg_passInward_47 : decode b_Pg_passInward 47 = .ok (.aload_n 0, 1) := by decide +kernel
theorem d_Pg_passInward_48 : decode b_Pg_passInward 48 = .ok (.getfield 43, 3) := by decide +kernel
theorem d_Pg_passInward_51 : decode b_Pg_passInward 51 = .ok (.iload_n 1, 1) := by decide +kernel
theorem d_Pg_passInward_52 : decode b_Pg_passInward 52 = .ok (.iload_n 3, 1) := by decide +kernel
theorem d_Pg_passInward_53 : decode b_Pg_passInward 53 = .ok (.aload_n 0, 1) := by decide +kernel
theorem d_Pg_passInward_54 : decode b_Pg_passInward 54 = .ok (.getfield 65, 3) := by decide +kernel
theorem d_Pg_passInward_57 : decode b_Pg_passInward 57 = .ok (.invokevirtual 186, 3) := by decide +kernel
theorem d_Pg_passInward_60 : decode b_Pg_passInward 60 = .ok (.istore 4, 2) := by decide +kernel
theorem d_Pg_passInward_62 : decode b_Pg_passInward 62 = .ok (.iload 4, 2) := by decide +kernel
theorem d_Pg_passInward_64 : decode b_Pg_passInward 64 = .ok (.iconst (-1), 1) := by decide +kernel
theorem d_Pg_passInward_65 : decode b_Pg_passInward 65 = .ok (.if_icmp .eq 36, 3) := by decide +kernel
theorem d_Pg_passInward_68 : decode b_Pg_passInward 68 = .ok (.aload_n 0, 1) := by decide +kernel
theorem d_Pg_passInward_69 : decode b_Pg_passInward 69 = .ok (.getfield 43, 3) := by decide +kernel
theorem d_Pg_passInward_72 : decode b_Pg_passInward 72 = .ok (.iload 4, 2) := by decide +kernel
theorem d_Pg_passInward_74 : decode b_Pg_passInward 74 = .ok (.iconst 0, 1) := by decide +kernel
theorem d_Pg_passInward_75 : decode b_Pg_passInward 75 = .ok (.iload_n 2, 1) := by decide +kernel
theorem d_Pg_passInward_76 : decode b_Pg_passInward 76 = .ok (.aload_n 0, 1) := by decide +kernel
theorem d_Pg_passInward_77 : decode b_Pg_passInward 77 = .ok (.getfield 72, 3) := by decide +kernel
theorem d_Pg_passInward_80 : decode b_Pg_passInward 80 = .ok (.invokevirtual 197, 3) := by decide +kernel
theorem d_Pg_passInward_83 : decode b_Pg_passInward 83 = .ok (.ifCond .eq 15, 3) := by decide +kernel
theorem d_Pg_passInward_86 : decode b_Pg_passInward 86 = .ok (.aload_n 0, 1) := by decide +kernel
theorem d_Pg_passInward_87 : decode b_Pg_passInward 87 = .ok (.aload_n 0, 1) := by decide +kernel
theorem d_Pg_passInward_88 : decode b_Pg_passInward 88 = .ok (.getfield 65, 3) := by decide +kernel
theorem d_Pg_passInward_91 : decode b_Pg_passInward 91 = .ok (.iload_n 3, 1) := by decide +kernel
theorem d_Pg_passInward_92 : decode b_Pg_passInward 92 = .ok (.invokevirtual 246, 3) := by decide +kernel
theorem d_Pg_passInward_95 : decode b_Pg_passInward 95 = .ok (.goto 5, 3) := by decide +kernel
theorem d_Pg_passInward_98 : decode b_Pg_passInward 98 = .ok (.bipush (-6), 2) := by decide +kernel
theorem d_Pg_passInward_100 : decode b_Pg_passInward 100 = .ok (.ireturn, 1) := by decide +kernel
theorem d_Pg_passInward_101 : decode b_Pg_passInward 101 = .ok (.aload_n 0, 1) := by decide +kernel
theorem d_Pg_passInward_102 : decode b_Pg_passInward 102 = .ok (.getfield 26, 3) := by decide +kernel
theorem d_Pg_passInward_105 : decode b_Pg_passInward 105 = .ok (.iconst 0, 1) := by decide +kernel
theorem d_Pg_passInward_106 : decode b_Pg_passInward 106 = .ok (.iload_n 1, 1) := by decide +kernel
theorem d_Pg_passInward_107 : decode b_Pg_passInward 107 = .ok (.aload_n 0, 1) := by decide +kernel
theorem d_Pg_passInward_108 : decode b_Pg_passInward 108 = .ok (.getfield 65, 3) := by decide +kernel
theorem d_Pg_passInward_111 : decode b_Pg_passInward 111 = .ok (.iload_n 3, 1) := by decide +kernel
theorem d_Pg_passInward_112 : decode b_Pg_passInward 112 = .ok (.invokevirtual 204, 3) := by decide +kernel
theorem d_Pg_passInward_115 : decode b_Pg_passInward 115 = .ok (.ifCond .eq 6, 3) := by decide +kernel
theorem d_Pg_passInward_118 : decode b_Pg_passInward 118 = .ok (.bipush (-4), 2) := by decide +kernel
theorem d_Pg_passInward_120 : decode b_Pg_passInward 120 = .ok (.ireturn, 1) := by decide +kernel
theorem d_Pg_passInward_121 : decode b_Pg_passInward 121 = .ok (.aload_n 0, 1) := by decide +kernel
theorem d_Pg_passInward_122 : decode b_Pg_passInward 122 = .ok (.iload_n 1, 1) := by decide +kernel
theorem d_Pg_passInward_123 : decode b_Pg_passInward 123 = .ok (.iload_n 2, 1) := by decide +kernel
theorem d_Pg_passInward_124 : decode b_Pg_passInward 124 = .ok (.iload_n 3, 1) := by decide +kernel
theorem d_Pg_passInward_125 : decode b_Pg_passInward 125 = .ok (.invokevirtual 249, 3) := by decide +kernel
theorem d_Pg_passInward_128 : decode b_Pg_passInward 128 = .ok (.ireturn, 1) := by decide +kernel
theorem d_Pg_sendBetween_0 : decode b_Pg_sendBetween 0 = .ok (.aload_n 0, 1) := by decide +kernel
theorem d_Pg_sendBetween_1 : decode b_Pg_sendBetween 1 = .ok (.iload_n 1, 1) := by decide +kernel
theorem d_Pg_sendBetween_2 : decode b_Pg_sendBetween 2 = .ok (.invokestatic 227, 3) := by decide +kernel
theorem d_Pg_sendBetween_5 : decode b_Pg_sendBetween 5 = .ok (.iload_n 1, 1) := by decide +kernel
theorem d_Pg_sendBetween_6 : decode b_Pg_sendBetween 6 = .ok (.invokestatic 230, 3) := by decide +kernel
theorem d_Pg_sendBetween_9 : decode b_Pg_sendBetween 9 = .ok (.iload_n 2, 1) := by decide +kernel
theorem d_Pg_sendBetween_10 : decode b_Pg_sendBetween 10 = .ok (.invokestatic 227, 3) := by decide +kernel
theorem d_Pg_sendBetween_13 : decode b_Pg_sendBetween 13 = .ok (.iload_n 2, 1) := by decide +kernel
theorem d_Pg_sendBetween_14 : decode b_Pg_sendBetween 14 = .ok (.invokestatic 230, 3) := by decide +kernel
theorem d_Pg_sendBetween_17 : decode b_Pg_sendBetween 17 = .ok (.invokevirtual 233, 3) := by decide +kernel
theorem d_Pg_sendBetween_20 : decode b_Pg_sendBetween 20 = .ok (.iconst 0, 1) := by decide +kernel
theorem d_Pg_sendBetween_21 : decode b_Pg_sendBetween 21 = .ok (.ireturn, 1) := by decide +kernel
theorem d_Pg_openInward_0 : decode b_Pg_openInward 0 = .ok (.iload_n 1, 1) := by decide +kernel
theorem d_Pg_openInward_1 : decode b_Pg_openInward 1 = .ok (.iload_n 2, 1) := by decide +kernel
theorem d_Pg_openInward_2 : decode b_Pg_openInward 2 = .ok (.invokestatic 214, 3) := by decide +kernel
theorem d_Pg_openInward_5 : decode b_Pg_openInward 5 = .ok (.ifCond .ne 6, 3) := by decide +kernel
theorem d_Pg_openInward_8 : decode b_Pg_openInward 8 = .ok (.bipush (-6), 2) := by decide +kernel
theorem d_Pg_openInward_10 : decode b_Pg_openInward 10 = .ok (.ireturn, 1) := by decide +kernel
theorem d_Pg_openInward_11 : decode b_Pg_openInward 11 = .ok (.aload_n 0, 1) := by decide +kernel
theorem d_Pg_openInward_12 : decode b_Pg_openInward 12 = .ok (.getfield 43, 3) := by decide +kernel
theorem d_Pg_openInward_15 : decode b_Pg_openInward 15 = .ok (.invokevirtual 217, 3) := by decide +kernel
theorem d_Pg_openInward_18 : decode b_Pg_openInward 18 = .ok (.ifCond .eq 6, 3) := by decide +kernel
theorem d_Pg_openInward_21 : decode b_Pg_openInward 21 = .ok (.bipush (-7), 2) := by decide +kernel
theorem d_Pg_openInward_23 : decode b_Pg_openInward 23 = .ok (.ireturn, 1) := by decide +kernel
theorem d_Pg_openInward_24 : decode b_Pg_openInward 24 = .ok (.aload_n 0, 1) := by decide +kernel
theorem d_Pg_openInward_25 : decode b_Pg_openInward 25 = .ok (.getfield 43, 3) := by decide +kernel
theorem d_Pg_openInward_28 : decode b_Pg_openInward 28 = .ok (.invokevirtual 221, 3) := by decide +kernel
theorem d_Pg_openInward_31 : decode b_Pg_openInward 31 = .ok (.iload_n 1, 1) := by decide +kernel
theorem d_Pg_openInward_32 : decode b_Pg_openInward 32 = .ok (.iload_n 3, 1) := by decide +kernel
theorem d_Pg_openInward_33 : decode b_Pg_openInward 33 = .ok (.aload_n 0, 1) := by decide +kernel
theorem d_Pg_openInward_34 : decode b_Pg_openInward 34 = .ok (.getfield 65, 3) := by decide +kernel
theorem d_Pg_openInward_37 : decode b_Pg_openInward 37 = .ok (.aload_n 0, 1) := by decide +kernel
theorem d_Pg_openInward_38 : decode b_Pg_openInward 38 = .ok (.getfield 69, 3) := by decide +kernel
theorem d_Pg_openInward_41 : decode b_Pg_openInward 41 = .ok (.invokestatic 230, 3) := by decide +kernel
theorem d_Pg_openInward_44 : decode b_Pg_openInward 44 = .ok (.iconst 0, 1) := by decide +kernel
theorem d_Pg_openInward_45 : decode b_Pg_openInward 45 = .ok (.aload_n 0, 1) := by decide +kernel
theorem d_Pg_openInward_46 : decode b_Pg_openInward 46 = .ok (.getfield 72, 3) := by decide +kernel
theorem d_Pg_openInward_49 : decode b_Pg_openInward 49 = .ok (.invokevirtual 224, 3) := by decide +kernel
theorem d_Pg_openInward_52 : decode b_Pg_openInward 52 = .ok (.aload_n 0, 1) := by decide +kernel
theorem d_Pg_openInward_53 : decode b_Pg_openInward 53 = .ok (.aload_n 0, 1) := by decide +kernel
theorem d_Pg_openInward_54 : decode b_Pg_openInward 54 = .ok (.getfield 65, 3) := by decide +kernel
theorem d_Pg_openInward_57 : decode b_Pg_openInward 57 = .ok (.iload_n 3, 1) := by decide +kernel
theorem d_Pg_openInward_58 : decode b_Pg_openInward 58 = .ok (.invokevirtual 246, 3) := by decide +kernel
theorem d_Pg_openInward_61 : decode b_Pg_openInward 61 = .ok (.ireturn, 1) := by decide +kernel
theorem d_Pg_report_0 : decode b_Pg_report 0 = .ok (.iload_n 1, 1) := by decide +kernel
theorem d_Pg_report_1 : decode b_Pg_report 1 = .ok (.invokestatic 144, 3) := by decide +kernel
theorem d_Pg_report_4 : decode b_Pg_report 4 = .ok (.ifCond .ne 5, 3) := by decide +kernel
theorem d_Pg_report_7 : decode b_Pg_report 7 = .ok (.iconst (-1), 1) := by decide +kernel
theorem d_Pg_report_8 : decode b_Pg_report 8 = .ok (.ireturn, 1) := by decide +kernel
theorem d_Pg_report_9 : decode b_Pg_report 9 = .ok (.aload_n 0, 1) := by decide +kernel
theorem d_Pg_report_10 : decode b_Pg_report 10 = .ok (.aload_n 0, 1) := by decide +kernel
theorem d_Pg_report_11 : decode b_Pg_report 11 = .ok (.iload_n 1, 1) := by decide +kernel
theorem d_Pg_report_12 : decode b_Pg_report 12 = .ok (.invokevirtual 252, 3) := by decide +kernel
theorem d_Pg_report_15 : decode b_Pg_report 15 = .ok (.invokevirtual 176, 3) := by decide +kernel
theorem d_Pg_report_18 : decode b_Pg_report 18 = .ok (.ireturn, 1) := by decide +kernel
theorem d_Pg_passReport_0 : decode b_Pg_passReport 0 = .ok (.aload_n 0, 1) := by decide +kernel
theorem d_Pg_passReport_1 : decode b_Pg_passReport 1 = .ok (.getfield 65, 3) := by decide +kernel
theorem d_Pg_passReport_4 : decode b_Pg_passReport 4 = .ok (.invokestatic 227, 3) := by decide +kernel
theorem d_Pg_passReport_7 : decode b_Pg_passReport 7 = .ok (.sipush 200, 3) := by decide +kernel
theorem d_Pg_passReport_10 : decode b_Pg_passReport 10 = .ok (.if_icmp .eq 6, 3) := by decide +kernel
