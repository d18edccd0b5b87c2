theorem d_Fl_init_0 : decode b_Fl_init 0 = .ok (.aload_n 0, 1) := by decide +kernel
theorem d_Fl_init_1 : decode b_Fl_init 1 = .ok (.invokespecial 3, 3) := by decide +kernel
theorem d_Fl_init_4 : decode b_Fl_init 4 = .ok (.aload_n 0, 1) := by decide +kernel
theorem d_Fl_init_5 : decode b_Fl_init 5 = .ok (.iconst 0, 1) := by decide +kernel
theorem d_Fl_init_6 : decode b_Fl_init 6 = .ok (.putfield 11, 3) := by decide +kernel
theorem d_Fl_init_9 : decode b_Fl_init 9 = .ok (.return_, 1) := by decide +kernel
theorem d_Fl_follow_0 : decode b_Fl_follow 0 = .ok (.aload_n 0, 1) := by decide +kernel
theorem d_Fl_follow_1 : decode b_Fl_follow 1 = .ok (.iload_n 1, 1) := by decide +kernel
theorem d_Fl_follow_2 : decode b_Fl_follow 2 = .ok (.iload_n 2, 1) := by decide +kernel
theorem d_Fl_follow_3 : decode b_Fl_follow 3 = .ok (.invokevirtual 37, 3) := by decide +kernel
theorem d_Fl_follow_6 : decode b_Fl_follow 6 = .ok (.istore 4, 2) := by decide +kernel
theorem d_Fl_follow_8 : decode b_Fl_follow 8 = .ok (.iload 4, 2) := by decide +kernel
theorem d_Fl_follow_10 : decode b_Fl_follow 10 = .ok (.iconst (-1), 1) := by decide +kernel
theorem d_Fl_follow_11 : decode b_Fl_follow 11 = .ok (.if_icmp .ne 5, 3) := by decide +kernel
theorem d_Fl_follow_14 : decode b_Fl_follow 14 = .ok (.iconst 0, 1) := by decide +kernel
theorem d_Fl_follow_15 : decode b_Fl_follow 15 = .ok (.ireturn, 1) := by decide +kernel
theorem d_Fl_follow_16 : decode b_Fl_follow 16 = .ok (.iload 4, 2) := by decide +kernel
theorem d_Fl_follow_18 : decode b_Fl_follow 18 = .ok (.iconst 4, 1) := by decide +kernel
theorem d_Fl_follow_19 : decode b_Fl_follow 19 = .ok (.if_icmp .ne 16, 3) := by decide +kernel
theorem d_Fl_follow_22 : decode b_Fl_follow 22 = .ok (.aload_n 0, 1) := by decide +kernel
theorem d_Fl_follow_23 : decode b_Fl_follow 23 = .ok (.getfield 11, 3) := by decide +kernel
theorem d_Fl_follow_26 : decode b_Fl_follow 26 = .ok (.iconst 4, 1) := by decide +kernel
theorem d_Fl_follow_27 : decode b_Fl_follow 27 = .ok (.if_icmp .eq 8, 3) := by decide +kernel
theorem d_Fl_follow_30 : decode b_Fl_follow 30 = .ok (.aload_n 0, 1) := by decide +kernel
theorem d_Fl_follow_31 : decode b_Fl_follow 31 = .ok (.iload_n 1, 1) := by decide +kernel
theorem d_Fl_follow_32 : decode b_Fl_follow 32 = .ok (.putfield 34, 3) := by decide +kernel
theorem d_Fl_follow_35 : decode b_Fl_follow 35 = .ok (.aload_n 0, 1) := by decide +kernel
theorem d_Fl_follow_36 : decode b_Fl_follow 36 = .ok (.iload 4, 2) := by decide +kernel
theorem d_Fl_follow_38 : decode b_Fl_follow 38 = .ok (.putfield 11, 3) := by decide +kernel
theorem d_Fl_follow_41 : decode b_Fl_follow 41 = .ok (.aload_n 0, 1) := by decide +kernel
theorem d_Fl_follow_42 : decode b_Fl_follow 42 = .ok (.iload_n 3, 1) := by decide +kernel
theorem d_Fl_follow_43 : decode b_Fl_follow 43 = .ok (.putfield 27, 3) := by decide +kernel
theorem d_Fl_follow_46 : decode b_Fl_follow 46 = .ok (.iconst 1, 1) := by decide +kernel
theorem d_Fl_follow_47 : decode b_Fl_follow 47 = .ok (.ireturn, 1) := by decide +kernel
theorem d_Fl_stateAfter_0 : decode b_Fl_stateAfter 0 = .ok (.iload_n 1, 1) := by decide +kernel
theorem d_Fl_stateAfter_1 : decode b_Fl_stateAfter 1 = .ok (.aload_n 0, 1) := by decide +kernel
theorem d_Fl_stateAfter_2 : decode b_Fl_stateAfter 2 = .ok (.getfield 30, 3) := by decide +kernel
theorem d_Fl_stateAfter_5 : decode b_Fl_stateAfter 5 = .ok (.if_icmp .ne 7, 3) := by decide +kernel
theorem d_Fl_stateAfter_8 : decode b_Fl_stateAfter 8 = .ok (.iconst 1, 1) := by decide +kernel
theorem d_Fl_stateAfter_9 : decode b_Fl_stateAfter 9 = .ok (.goto 4, 3) := by decide +kernel
theorem d_Fl_stateAfter_12 : decode b_Fl_stateAfter 12 = .ok (.iconst 0, 1) := by decide +kernel
theorem d_Fl_stateAfter_13 : decode b_Fl_stateAfter 13 = .ok (.istore_n 3, 1) := by decide +kernel
theorem d_Fl_stateAfter_14 : decode b_Fl_stateAfter 14 = .ok (.aload_n 0, 1) := by decide +kernel
theorem d_Fl_stateAfter_15 : decode b_Fl_stateAfter 15 = .ok (.getfield 15, 3) := by decide +kernel
theorem d_Fl_stateAfter_18 : decode b_Fl_stateAfter 18 = .ok (.ifCond .eq 17, 3) := by decide +kernel
theorem d_Fl_stateAfter_21 : decode b_Fl_stateAfter 21 = .ok (.iload_n 3, 1) := by decide +kernel
theorem d_Fl_stateAfter_22 : decode b_Fl_stateAfter 22 = .ok (.ifCond .eq 10, 3) := by decide +kernel
theorem d_Fl_stateAfter_25 : decode b_Fl_stateAfter 25 = .ok (.aload_n 0, 1) := by decide +kernel
theorem d_Fl_stateAfter_26 : decode b_Fl_stateAfter 26 = .ok (.getfield 11, 3) := by decide +kernel
theorem d_Fl_stateAfter_29 : decode b_Fl_stateAfter 29 = .ok (.goto 5, 3) := by decide +kernel
theorem d_Fl_stateAfter_32 : decode b_Fl_stateAfter 32 = .ok (.bipush 7, 2) := by decide +kernel
theorem d_Fl_stateAfter_34 : decode b_Fl_stateAfter 34 = .ok (.ireturn, 1) := by decide +kernel
theorem d_Fl_stateAfter_35 : decode b_Fl_stateAfter 35 = .ok (.iload_n 2, 1) := by decide +kernel
theorem d_Fl_stateAfter_36 : decode b_Fl_stateAfter 36 = .ok (.bipush 8, 2) := by decide +kernel
theorem d_Fl_stateAfter_38 : decode b_Fl_stateAfter 38 = .ok (.iand, 1) := by decide +kernel
theorem d_Fl_stateAfter_39 : decode b_Fl_stateAfter 39 = .ok (.ifCond .eq 5, 3) := by decide +kernel
theorem d_Fl_stateAfter_42 : decode b_Fl_stateAfter 42 = .ok (.iconst 0, 1) := by decide +kernel
theorem d_Fl_stateAfter_43 : decode b_Fl_stateAfter 43 = .ok (.ireturn, 1) := by decide +kernel
theorem d_Fl_stateAfter_44 : decode b_Fl_stateAfter 44 = .ok (.aload_n 0, 1) := by decide +kernel
theorem d_Fl_stateAfter_45 : decode b_Fl_stateAfter 45 = .ok (.getfield 11, 3) := by decide +kernel
theorem d_Fl_stateAfter_48 : decode b_Fl_stateAfter 48 = .ok (.iconst 1, 1) := by decide +kernel
theorem d_Fl_stateAfter_49 : decode b_Fl_stateAfter 49 = .ok (.if_icmp .ne 9, 3) := by decide +kernel
theorem d_Fl_stateAfter_52 : decode b_Fl_stateAfter 52 = .ok (.iload_n 3, 1) := by decide +kernel
theorem d_Fl_stateAfter_53 : decode b_Fl_stateAfter 53 = .ok (.iload_n 2, 1) := by decide +kernel
theorem d_Fl_stateAfter_54 : decode b_Fl_stateAfter 54 = .ok (.invokestatic 41, 3) := by decide +kernel
theorem d_Fl_stateAfter_57 : decode b_Fl_stateAfter 57 = .ok (.ireturn, 1) := by decide +kernel
theorem d_Fl_stateAfter_58 : decode b_Fl_stateAfter 58 = .ok (.aload_n 0, 1) := by decide +kernel
theorem d_Fl_stateAfter_59 : decode b_Fl_stateAfter 59 = .ok (.getfield 11, 3) := by decide +kernel
theorem d_Fl_stateAfter_62 : decode b_Fl_stateAfter 62 = .ok (.iconst 2, 1) := by decide +kernel
theorem d_Fl_stateAfter_63 : decode b_Fl_stateAfter 63 = .ok (.if_icmp .ne 9, 3) := by decide +kernel
theorem d_Fl_stateAfter_66 : decode b_Fl_stateAfter 66 = .ok (.iload_n 3, 1) := by decide +kernel
theorem d_Fl_stateAfter_67 : decode b_Fl_stateAfter 67 = .ok (.iload_n 2, 1) := by decide +kernel
theorem d_Fl_stateAfter_68 : decode b_Fl_stateAfter 68 = .ok (.invokestatic 44, 3) := by decide +kernel
theorem d_Fl_stateAfter_71 : decode b_Fl_stateAfter 71 = .ok (.ireturn, 1) := by decide +kernel
theorem d_Fl_stateAfter_72 : decode b_Fl_stateAfter 72 = .ok (.aload_n 0, 1) := by decide +kernel
theorem d_Fl_stateAfter_73 : decode b_Fl_stateAfter 73 = .ok (.iload_n 1, 1) := by decide +kernel
theorem d_Fl_stateAfter_74 : decode b_Fl_stateAfter 74 = .ok (.iload_n 2, 1) := by decide +kernel
theorem d_Fl_stateAfter_75 : decode b_Fl_stateAfter 75 = .ok (.invokevirtual 47, 3) := by decide +kernel
theorem d_Fl_stateAfter_78 : decode b_Fl_stateAfter 78 = .ok (.ireturn, 1) := by decide +kernel
theorem d_Fl_afterBegun_0 : decode b_Fl_afterBegun 0 = .ok (.iload_n 0, 1) := by decide +kernel
theorem d_Fl_afterBegun_1 : decode b_Fl_afterBegun 1 = .ok (.ifCond .eq 14, 3) := by decide +kernel
theorem d_Fl_afterBegun_4 : decode b_Fl_afterBegun 4 = .ok (.iload_n 1, 1) := by decide +kernel
theorem d_Fl_afterBegun_5 : decode b_Fl_afterBegun 5 = .ok (.iconst 1, 1) := by decide +kernel
theorem d_Fl_afterBegun_6 : decode b_Fl_afterBegun 6 = .ok (.if_icmp .ne 7, 3) := by decide +kernel
theorem d_Fl_afterBegun_9 : decode b_Fl_afterBegun 9 = .ok (.iconst 1, 1) := by decide +kernel
theorem d_Fl_afterBegun_10 : decode b_Fl_afterBegun 10 = .ok (.goto 4, 3) := by decide +kernel
theorem d_Fl_afterBegun_13 : decode b_Fl_afterBegun 13 = .ok (.iconst (-1), 1) := by decide +kernel
theorem d_Fl_afterBegun_14 : decode b_Fl_afterBegun 14 = .ok (.ireturn, 1) := by decide +kernel
theorem d_Fl_afterBegun_15 : decode b_Fl_afterBegun 15 = .ok (.iload_n 1, 1) := by decide +kernel
theorem d_Fl_afterBegun_16 : decode b_Fl_afterBegun 16 = .ok (.iconst 3, 1) := by decide +kernel
theorem d_Fl_afterBegun_17 : decode b_Fl_afterBegun 17 = .ok (.if_icmp .ne 7, 3) := by decide +kernel
theorem d_Fl_afterBegun_20 : decode b_Fl_afterBegun 20 = .ok (.iconst 2, 1) := by decide +kernel
theorem d_Fl_afterBegun_21 : decode b_Fl_afterBegun 21 = .ok (.goto 4, 3) := by decide +kernel
theorem d_Fl_afterBegun_24 : decode b_Fl_afterBegun 24 = .ok (.iconst (-1), 1) := by decide +kernel
theorem d_Fl_afterBegun_25 : decode b_Fl_afterBegun 25 = .ok (.ireturn, 1) := by decide +kernel
theorem d_Fl_afterAnswered_0 : decode b_Fl_afterAnswered 0 = .ok (.iload_n 0, 1) := by decide +kernel
theorem d_Fl_afterAnswered_1 : decode b_Fl_afterAnswered 1 = .ok (.ifCond .ne 14, 3) := by decide +kernel
theorem d_Fl_afterAnswered_4 : decode b_Fl_afterAnswered 4 = .ok (.iload_n 1, 1) := by decide +kernel
theorem d_Fl_afterAnswered_5 : decode b_Fl_afterAnswered 5 = .ok (.iconst 3, 1) := by decide +kernel
theorem d_Fl_afterAnswered_6 : decode b_Fl_afterAnswered 6 = .ok (.if_icmp .ne 7, 3) := by decide +kernel
theorem d_Fl_afterAnswered_9 : decode b_Fl_afterAnswered 9 = .ok (.iconst 2, 1) := by decide +kernel
theorem d_Fl_afterAnswered_10 : decode b_Fl_afterAnswered 10 = .ok (.goto 4, 3) := by decide +kernel
theorem d_Fl_afterAnswered_13 : decode b_Fl_afterAnswered 13 = .ok (.iconst (-1), 1) := by decide +kernel
theorem d_Fl_afterAnswered_14 : decode b_Fl_afterAnswered 14 = .ok (.ireturn, 1) := by decide +kernel
theorem d_Fl_afterAnswered_15 : decode b_Fl_afterAnswered 15 = .ok (.iload_n 1, 1) := by decide +kernel
theorem d_Fl_afterAnswered_16 : decode b_Fl_afterAnswered 16 = .ok (.iconst 2, 1) := by decide +kernel
theorem d_Fl_afterAnswered_17 : decode b_Fl_afterAnswered 17 = .ok (.iand, 1) := by decide +kernel
theorem d_Fl_afterAnswered_18 : decode b_Fl_afterAnswered 18 = .ok (.ifCond .eq 9, 3) := by decide +kernel
theorem d_Fl_afterAnswered_21 : decode b_Fl_afterAnswered 21 = .ok (.iload_n 1, 1) := by decide +kernel
theorem d_Fl_afterAnswered_22 : decode b_Fl_afterAnswered 22 = .ok (.iconst 1, 1) := by decide +kernel
theorem d_Fl_afterAnswered_23 : decode b_Fl_afterAnswered 23 = .ok (.iand, 1) := by decide +kernel
theorem d_Fl_afterAnswered_24 : decode b_Fl_afterAnswered 24 = .ok (.ifCond .eq 5, 3) := by decide +kernel
theorem d_Fl_afterAnswered_27 : decode b_Fl_afterAnswered 27 = .ok (.iconst (-1), 1) := by decide +kernel
theorem d_Fl_afterAnswered_28 : decode b_Fl_afterAnswered 28 = .ok (.ireturn, 1) := by decide +kernel
theorem d_Fl_afterAnswered_29 : decode b_Fl_afterAnswered 29 = .ok (.iload_n 1, 1) := by decide +kernel
theorem d_Fl_afterAnswered_30 : decode b_Fl_afterAnswered 30 = .ok (.iconst 4, 1) := by decide +kernel
theorem d_Fl_afterAnswered_31 : decode b_Fl_afterAnswered 31 = .ok (.iand, 1) := by decide +kernel
theorem d_Fl_afterAnswered_32 : decode b_Fl_afterAnswered 32 = .ok (.ifCond .eq 7, 3) := by decide +kernel
theorem d_Fl_afterAnswered_35 : decode b_Fl_afterAnswered 35 = .ok (.iconst 4, 1) := by decide +kernel
theorem d_Fl_afterAnswered_36 : decode b_Fl_afterAnswered 36 = .ok (.goto 4, 3) := by decide +kernel
theorem d_Fl_afterAnswered_39 : decode b_Fl_afterAnswered 39 = .ok (.iconst 3, 1) := by decide +kernel
theorem d_Fl_afterAnswered_40 : decode b_Fl_afterAnswered 40 = .ok (.ireturn, 1) := by decide +kernel
theorem d_Fl_afterOpen_0 : decode b_Fl_afterOpen 0 = .ok (.iload_n 2, 1) := by decide +kernel
theorem d_Fl_afterOpen_1 : decode b_Fl_afterOpen 1 = .ok (.iconst 1, 1) := by decide +kernel
theorem d_Fl_afterOpen_2 : decode b_Fl_afterOpen 2 = .ok (.iand, 1) := by decide +kernel
theorem d_Fl_afterOpen_3 : decode b_Fl_afterOpen 3 = .ok (.ifCond .eq 5, 3) := by decide +kernel
theorem d_Fl_afterOpen_6 : decode b_Fl_afterOpen 6 = .ok (.iconst (-1), 1) := by decide +kernel
theorem d_Fl_afterOpen_7 : decode b_Fl_afterOpen 7 = .ok (.ireturn, 1) := by decide +kernel
theorem d_Fl_afterOpen_8 : decode b_Fl_afterOpen 8 = .ok (.iload_n 2, 1) := by decide +kernel
theorem d_Fl_afterOpen_9 : decode b_Fl_afterOpen 9 = .ok (.iconst 4, 1) := by decide +kernel
theorem d_Fl_afterOpen_10 : decode b_Fl_afterOpen 10 = .ok (.iand, 1) := by decide +kernel
theorem d_Fl_afterOpen_11 : decode b_Fl_afterOpen 11 = .ok (.ifCond .ne 8, 3) := by decide +kernel
theorem d_Fl_afterOpen_14 : decode b_Fl_afterOpen 14 = .ok (.aload_n 0, 1) := by decide +kernel
theorem d_Fl_afterOpen_15 : decode b_Fl_afterOpen 15 = .ok (.getfield 11, 3) := by decide +kernel
theorem d_Fl_afterOpen_18 : decode b_Fl_afterOpen 18 = .ok (.ireturn, 1) := by decide +kernel
theorem d_Fl_afterOpen_19 : decode b_Fl_afterOpen 19 = .ok (.aload_n 0, 1) := by decide +kernel
theorem d_Fl_afterOpen_20 : decode b_Fl_afterOpen 20 = .ok (.getfield 11, 3) := by decide +kernel
theorem d_Fl_afterOpen_23 : decode b_Fl_afterOpen 23 = .ok (.iconst 3, 1) := by decide +kernel
theorem d_Fl_afterOpen_24 : decode b_Fl_afterOpen 24 = .ok (.if_icmp .ne 5, 3) := by decide +kernel
theorem d_Fl_afterOpen_27 : decode b_Fl_afterOpen 27 = .ok (.iconst 4, 1) := by decide +kernel
theorem d_Fl_afterOpen_28 : decode b_Fl_afterOpen 28 = .ok (.ireturn, 1) := by decide +kernel
theorem d_Fl_afterOpen_29 : decode b_Fl_afterOpen 29 = .ok (.aload_n 0, 1) := by decide +kernel
theorem d_Fl_afterOpen_30 : decode b_Fl_afterOpen 30 = .ok (.getfield 11, 3) := by decide +kernel
theorem d_Fl_afterOpen_33 : decode b_Fl_afterOpen 33 = .ok (.iconst 4, 1) := by decide +kernel
theorem d_Fl_afterOpen_34 : decode b_Fl_afterOpen 34 = .ok (.if_icmp .ne 15, 3) := by decide +kernel
theorem d_Fl_afterOpen_37 : decode b_Fl_afterOpen 37 = .ok (.iload_n 1, 1) := by decide +kernel
theorem d_Fl_afterOpen_38 : decode b_Fl_afterOpen 38 = .ok (.aload_n 0, 1) := by decide +kernel
theorem d_Fl_afterOpen_39 : decode b_Fl_afterOpen 39 = .ok (.getfield 34, 3) := by decide +kernel
theorem d_Fl_afterOpen_42 : decode b_Fl_afterOpen 42 = .ok (.if_icmp .ne 7, 3) := by decide +kernel
theorem d_Fl_afterOpen_45 : decode b_Fl_afterOpen 45 = .ok (.iconst 4, 1) := by decide +kernel
theorem d_Fl_afterOpen_46 : decode b_Fl_afterOpen 46 = .ok (.goto 4, 3) := by decide +kernel
theorem d_Fl_afterOpen_49 : decode b_Fl_afterOpen 49 = .ok (.iconst 5, 1) := by decide +kernel
theorem d_Fl_afterOpen_50 : decode b_Fl_afterOpen 50 = .ok (.ireturn, 1) := by decide +kernel
theorem d_Fl_canBegin_0 : decode b_Fl_canBegin 0 = .ok (.iload_n 0, 1) := by decide +kernel
theorem d_Fl_canBegin_1 : decode b_Fl_canBegin 1 = .ok (.ifCond .ne 8, 3) := by decide +kernel
theorem d_Fl_canBegin_4 : decode b_Fl_canBegin 4 = .ok (.iload_n 1, 1) := by decide +kernel
theorem d_Fl_canBegin_5 : decode b_Fl_canBegin 5 = .ok (.iconst 1, 1) := by decide +kernel
theorem d_Fl_canBegin_6 : decode b_Fl_canBegin 6 = .ok (.if_icmp .ne 7, 3) := by decide +kernel
theorem d_Fl_canBegin_9 : decode b_Fl_canBegin 9 = .ok (.iconst 1, 1) := by decide +kernel
theorem d_Fl_canBegin_10 : decode b_Fl_canBegin 10 = .ok (.goto 4, 3) := by decide +kernel
theorem d_Fl_canBegin_13 : decode b_Fl_canBegin 13 = .ok (.iconst 0, 1) := by decide +kernel
theorem d_Fl_canBegin_14 : decode b_Fl_canBegin 14 = .ok (.ireturn, 1) := by decide +kernel
theorem d_Fl_begin_0 : decode b_Fl_begin 0 = .ok (.aload_n 0, 1) := by decide +kernel
theorem d_Fl_begin_1 : decode b_Fl_begin 1 = .ok (.iload_n 1, 1) := by decide +kernel
theorem d_Fl_begin_2 : decode b_Fl_begin 2 = .ok (.putfield 15, 3) := by decide +kernel
theorem d_Fl_begin_5 : decode b_Fl_begin 5 = .ok (.aload_n 0, 1) := by decide +kernel
theorem d_Fl_begin_6 : decode b_Fl_begin 6 = .ok (.iload_n 2, 1) := by decide +kernel
theorem d_Fl_begin_7 : decode b_Fl_begin 7 = .ok (.putfield 18, 3) := by decide +kernel
theorem d_Fl_begin_10 : decode b_Fl_begin 10 = .ok (.aload_n 0, 1) := by decide +kernel
theorem d_Fl_begin_11 : decode b_Fl_begin 11 = .ok (.iload_n 3, 1) := by decide +kernel
theorem d_Fl_begin_12 : decode b_Fl_begin 12 = .ok (.putfield 21, 3) := by decide +kernel
theorem d_Fl_begin_15 : decode b_Fl_begin 15 = .ok (.aload_n 0, 1) := by decide +kernel
theorem d_Fl_begin_16 : decode b_Fl_begin 16 = .ok (.iload 4, 2) := by decide +kernel
theorem d_Fl_begin_18 : decode b_Fl_begin 18 = .ok (.putfield 24, 3) := by decide +kernel
theorem d_Fl_begin_21 : decode b_Fl_begin 21 = .ok (.aload_n 0, 1) := by decide +kernel
theorem d_Fl_begin_22 : decode b_Fl_begin 22 = .ok (.iload_n 1, 1) := by decide +kernel
theorem d_Fl_begin_23 : decode b_Fl_begin 23 = .ok (.ifCond .ne 7, 3) := by decide +kernel
theorem d_Fl_begin_26 : decode b_Fl_begin 26 = .ok (.iconst 1, 1) := by decide +kernel
theorem d_Fl_begin_27 : decode b_Fl_begin 27 = .ok (.goto 5, 3) := by decide +kernel
theorem d_Fl_begin_30 : decode b_Fl_begin 30 = .ok (.bipush 6, 2) := by decide +kernel
theorem d_Fl_begin_32 : decode b_Fl_begin 32 = .ok (.putfield 11, 3) := by decide +kernel
theorem d_Fl_begin_35 : decode b_Fl_begin 35 = .ok (.aload_n 0, 1) := by decide +kernel
theorem d_Fl_begin_36 : decode b_Fl_begin 36 = .ok (.iload 6, 2) := by decide +kernel
theorem d_Fl_begin_38 : decode b_Fl_begin 38 = .ok (.putfield 27, 3) := by decide +kernel
theorem d_Fl_begin_41 : decode b_Fl_begin 41 = .ok (.aload_n 0, 1) := by decide +kernel
theorem d_Fl_begin_42 : decode b_Fl_begin 42 = .ok (.iload 5, 2) := by decide +kernel
theorem d_Fl_begin_44 : decode b_Fl_begin 44 = .ok (.putfield 30, 3) := by decide +kernel
theorem d_Fl_begin_47 : decode b_Fl_begin 47 = .ok (.aload_n 0, 1) := by decide +kernel
theorem d_Fl_begin_48 : decode b_Fl_begin 48 = .ok (.iconst 0, 1) := by decide +kernel
theorem d_Fl_begin_49 : decode b_Fl_begin 49 = .ok (.putfield 34, 3) := by decide +kernel
theorem d_Fl_begin_52 : decode b_Fl_begin 52 = .ok (.return_, 1) := by decide +kernel
theorem d_Fl_isTimedOut_0 : decode b_Fl_isTimedOut 0 = .ok (.iload_n 1, 1) := by decide +kernel
theorem d_Fl_isTimedOut_1 : decode b_Fl_isTimedOut 1 = .ok (.aload_n 0, 1) := by decide +kernel
theorem d_Fl_isTimedOut_2 : decode b_Fl_isTimedOut 2 = .ok (.getfield 27, 3) := by decide +kernel
theorem d_Fl_isTimedOut_5 : decode b_Fl_isTimedOut 5 = .ok (.isub, 1) := by decide +kernel
theorem d_Fl_isTimedOut_6 : decode b_Fl_isTimedOut 6 = .ok (.getstatic 50, 3) := by decide +kernel
theorem d_Fl_isTimedOut_9 : decode b_Fl_isTimedOut 9 = .ok (.aload_n 0, 1) := by decide +kernel
theorem d_Fl_isTimedOut_10 : decode b_Fl_isTimedOut 10 = .ok (.getfield 11, 3) := by decide +kernel
theorem d_Fl_isTimedOut_13 : decode b_Fl_isTimedOut 13 = .ok (.iaload, 1) := by decide +kernel
theorem d_Fl_isTimedOut_14 : decode b_Fl_isTimedOut 14 = .ok (.if_icmp .lt 7, 3) := by decide +kernel
theorem d_Fl_isTimedOut_17 : decode b_Fl_isTimedOut 17 = .ok (.iconst 1, 1) := by decide +kernel
theorem d_Fl_isTimedOut_18 : decode b_Fl_isTimedOut 18 = .ok (.goto 4, 3) := by decide +kernel
theorem d_Fl_isTimedOut_21 : decode b_Fl_isTimedOut 21 = .ok (.iconst 0, 1) := by decide +kernel
theorem d_Fl_isTimedOut_22 : decode b_Fl_isTimedOut 22 = .ok (.ireturn, 1) := by decide +kernel
theorem d_Fl_fieldOrRefused_0 : decode b_Fl_fieldOrRefused 0 = .ok (.iload_n 1, 1) := by decide +kernel
theorem d_Fl_fieldOrRefused_1 : decode b_Fl_fieldOrRefused 1 = .ok (.tableswitch 99 0 7 #[47, 52, 57, 65, 73, 81, 89, 94], 47) := by decide +kernel
theorem d_Fl_fieldOrRefused_48 : decode b_Fl_fieldOrRefused 48 = .ok (.aload_n 0, 1) := by decide +kernel
theorem d_Fl_fieldOrRefused_49 : decode b_Fl_fieldOrRefused 49 = .ok (.getfield 11, 3) := by decide +kernel
theorem d_Fl_fieldOrRefused_52 : decode b_Fl_fieldOrRefused 52 = .ok (.ireturn, 1) := by decide +kernel
theorem d_Fl_fieldOrRefused_53 : decode b_Fl_fieldOrRefused 53 = .ok (.aload_n 0, 1) := by decide +kernel
theorem d_Fl_fieldOrRefused_54 : decode b_Fl_fieldOrRefused 54 = .ok (.getfield 15, 3) := by decide +kernel
theorem d_Fl_fieldOrRefused_57 : decode b_Fl_fieldOrRefused 57 = .ok (.ireturn, 1) := by decide +kernel
theorem d_Fl_fieldOrRefused_58 : decode b_Fl_fieldOrRefused 58 = .ok (.aload_n 0, 1) := by decide +kernel
theorem d_Fl_fieldOrRefused_59 : decode b_Fl_fieldOrRefused 59 = .ok (.getfield 18, 3) := by decide +kernel
theorem d_Fl_fieldOrRefused_62 : decode b_Fl_fieldOrRefused 62 = .ok (.invokestatic 54, 3) := by decide +kernel
theorem d_Fl_fieldOrRefused_65 : decode b_Fl_fieldOrRefused 65 = .ok (.ireturn, 1) := by decide +kernel
theorem d_Fl_fieldOrRefused_66 : decode b_Fl_fieldOrRefused 66 = .ok (.aload_n 0, 1) := by decide +kernel
theorem d_Fl_fieldOrRefused_67 : decode b_Fl_fieldOrRefused 67 = .ok (.getfield 18, 3) := by decide +kernel
theorem d_Fl_fieldOrRefused_70 : decode b_Fl_fieldOrRefused 70 = .ok (.invokestatic 58, 3) := by decide +kernel
theorem d_Fl_fieldOrRefused_73 : decode b_Fl_fieldOrRefused 73 = .ok (.ireturn, 1) := by decide +kernel
theorem d_Fl_fieldOrRefused_74 : decode b_Fl_fieldOrRefused 74 = .ok (.aload_n 0, 1) := by decide +kernel
theorem d_Fl_fieldOrRefused_75 : decode b_Fl_fieldOrRefused 75 = .ok (.getfield 21, 3) := by decide +kernel
theorem d_Fl_fieldOrRefused_78 : decode b_Fl_fieldOrRefused 78 = .ok (.invokestatic 54, 3) := by decide +kernel
theorem d_Fl_fieldOrRefused_81 : decode b_Fl_fieldOrRefused 81 = .ok (.ireturn, 1) := by decide +kernel
theorem d_Fl_fieldOrRefused_82 : decode b_Fl_fieldOrRefused 82 = .ok (.aload_n 0, 1) := by decide +kernel
theorem d_Fl_fieldOrRefused_83 : decode b_Fl_fieldOrRefused 83 = .ok (.getfield 21, 3) := by decide +kernel
theorem d_Fl_fieldOrRefused_86 : decode b_Fl_fieldOrRefused 86 = .ok (.invokestatic 58, 3) := by decide +kernel
theorem d_Fl_fieldOrRefused_89 : decode b_Fl_fieldOrRefused 89 = .ok (.ireturn, 1) := by decide +kernel
theorem d_Fl_fieldOrRefused_90 : decode b_Fl_fieldOrRefused 90 = .ok (.aload_n 0, 1) := by decide +kernel
theorem d_Fl_fieldOrRefused_91 : decode b_Fl_fieldOrRefused 91 = .ok (.getfield 24, 3) := by decide +kernel
theorem d_Fl_fieldOrRefused_94 : decode b_Fl_fieldOrRefused 94 = .ok (.ireturn, 1) := by decide +kernel
theorem d_Fl_fieldOrRefused_95 : decode b_Fl_fieldOrRefused 95 = .ok (.aload_n 0, 1) := by decide +kernel
theorem d_Fl_fieldOrRefused_96 : decode b_Fl_fieldOrRefused 96 = .ok (.getfield 27, 3) := by decide +kernel
theorem d_Fl_fieldOrRefused_99 : decode b_Fl_fieldOrRefused 99 = .ok (.ireturn, 1) := by decide +kernel
theorem d_Fl_fieldOrRefused_100 : decode b_Fl_fieldOrRefused 100 = .ok (.iconst (-1), 1) := by decide +kernel
theorem d_Fl_fieldOrRefused_101 : decode b_Fl_fieldOrRefused 101 = .ok (.ireturn, 1) := by decide +kernel
