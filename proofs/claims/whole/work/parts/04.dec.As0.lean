theorem d_As_init_0 : decode b_As_init 0 = .ok (.aload_n 0, 1) := by decide +kernel
theorem d_As_init_1 : decode b_As_init 1 = .ok (.invokespecial 1, 3) := by decide +kernel
theorem d_As_init_4 : decode b_As_init 4 = .ok (.aload_n 0, 1) := by decide +kernel
theorem d_As_init_5 : decode b_As_init 5 = .ok (.iconst 0, 1) := by decide +kernel
theorem d_As_init_6 : decode b_As_init 6 = .ok (.invokevirtual 7, 3) := by decide +kernel
theorem d_As_init_9 : decode b_As_init 9 = .ok (.return_, 1) := by decide +kernel
theorem d_As_begin_0 : decode b_As_begin 0 = .ok (.aload_n 0, 1) := by decide +kernel
theorem d_As_begin_1 : decode b_As_begin 1 = .ok (.iload_n 1, 1) := by decide +kernel
theorem d_As_begin_2 : decode b_As_begin 2 = .ok (.putfield 13, 3) := by decide +kernel
theorem d_As_begin_5 : decode b_As_begin 5 = .ok (.aload_n 0, 1) := by decide +kernel
theorem d_As_begin_6 : decode b_As_begin 6 = .ok (.iconst 0, 1) := by decide +kernel
theorem d_As_begin_7 : decode b_As_begin 7 = .ok (.putfield 17, 3) := by decide +kernel
theorem d_As_begin_10 : decode b_As_begin 10 = .ok (.aload_n 0, 1) := by decide +kernel
theorem d_As_begin_11 : decode b_As_begin 11 = .ok (.iconst 0, 1) := by decide +kernel
theorem d_As_begin_12 : decode b_As_begin 12 = .ok (.putfield 20, 3) := by decide +kernel
theorem d_As_begin_15 : decode b_As_begin 15 = .ok (.aload_n 0, 1) := by decide +kernel
theorem d_As_begin_16 : decode b_As_begin 16 = .ok (.iconst 0, 1) := by decide +kernel
theorem d_As_begin_17 : decode b_As_begin 17 = .ok (.putfield 23, 3) := by decide +kernel
theorem d_As_begin_20 : decode b_As_begin 20 = .ok (.aload_n 0, 1) := by decide +kernel
theorem d_As_begin_21 : decode b_As_begin 21 = .ok (.iconst 0, 1) := by decide +kernel
theorem d_As_begin_22 : decode b_As_begin 22 = .ok (.putfield 26, 3) := by decide +kernel
theorem d_As_begin_25 : decode b_As_begin 25 = .ok (.return_, 1) := by decide +kernel
theorem d_As_isReplay_0 : decode b_As_isReplay 0 = .ok (.iload_n 1, 1) := by decide +kernel
theorem d_As_isReplay_1 : decode b_As_isReplay 1 = .ok (.aload_n 0, 1) := by decide +kernel
theorem d_As_isReplay_2 : decode b_As_isReplay 2 = .ok (.getfield 20, 3) := by decide +kernel
theorem d_As_isReplay_5 : decode b_As_isReplay 5 = .ok (.if_icmp .le 5, 3) := by decide +kernel
theorem d_As_isReplay_8 : decode b_As_isReplay 8 = .ok (.iconst 0, 1) := by decide +kernel
theorem d_As_isReplay_9 : decode b_As_isReplay 9 = .ok (.ireturn, 1) := by decide +kernel
theorem d_As_isReplay_10 : decode b_As_isReplay 10 = .ok (.aload_n 0, 1) := by decide +kernel
theorem d_As_isReplay_11 : decode b_As_isReplay 11 = .ok (.getfield 20, 3) := by decide +kernel
theorem d_As_isReplay_14 : decode b_As_isReplay 14 = .ok (.iload_n 1, 1) := by decide +kernel
theorem d_As_isReplay_15 : decode b_As_isReplay 15 = .ok (.isub, 1) := by decide +kernel
theorem d_As_isReplay_16 : decode b_As_isReplay 16 = .ok (.istore_n 2, 1) := by decide +kernel
theorem d_As_isReplay_17 : decode b_As_isReplay 17 = .ok (.iload_n 2, 1) := by decide +kernel
theorem d_As_isReplay_18 : decode b_As_isReplay 18 = .ok (.bipush 32, 2) := by decide +kernel
theorem d_As_isReplay_20 : decode b_As_isReplay 20 = .ok (.if_icmp .ge 14, 3) := by decide +kernel
theorem d_As_isReplay_23 : decode b_As_isReplay 23 = .ok (.aload_n 0, 1) := by decide +kernel
theorem d_As_isReplay_24 : decode b_As_isReplay 24 = .ok (.getfield 26, 3) := by decide +kernel
theorem d_As_isReplay_27 : decode b_As_isReplay 27 = .ok (.iload_n 2, 1) := by decide +kernel
theorem d_As_isReplay_28 : decode b_As_isReplay 28 = .ok (.iushr, 1) := by decide +kernel
theorem d_As_isReplay_29 : decode b_As_isReplay 29 = .ok (.iconst 1, 1) := by decide +kernel
theorem d_As_isReplay_30 : decode b_As_isReplay 30 = .ok (.iand, 1) := by decide +kernel
theorem d_As_isReplay_31 : decode b_As_isReplay 31 = .ok (.ifCond .eq 7, 3) := by decide +kernel
theorem d_As_isReplay_34 : decode b_As_isReplay 34 = .ok (.iconst 1, 1) := by decide +kernel
theorem d_As_isReplay_35 : decode b_As_isReplay 35 = .ok (.goto 4, 3) := by decide +kernel
theorem d_As_isReplay_38 : decode b_As_isReplay 38 = .ok (.iconst 0, 1) := by decide +kernel
theorem d_As_isReplay_39 : decode b_As_isReplay 39 = .ok (.ireturn, 1) := by decide +kernel
theorem d_As_accept_0 : decode b_As_accept 0 = .ok (.iload_n 1, 1) := by decide +kernel
theorem d_As_accept_1 : decode b_As_accept 1 = .ok (.aload_n 0, 1) := by decide +kernel
theorem d_As_accept_2 : decode b_As_accept 2 = .ok (.getfield 20, 3) := by decide +kernel
theorem d_As_accept_5 : decode b_As_accept 5 = .ok (.if_icmp .le 40, 3) := by decide +kernel
theorem d_As_accept_8 : decode b_As_accept 8 = .ok (.iload_n 1, 1) := by decide +kernel
theorem d_As_accept_9 : decode b_As_accept 9 = .ok (.aload_n 0, 1) := by decide +kernel
theorem d_As_accept_10 : decode b_As_accept 10 = .ok (.getfield 20, 3) := by decide +kernel
theorem d_As_accept_13 : decode b_As_accept 13 = .ok (.isub, 1) := by decide +kernel
theorem d_As_accept_14 : decode b_As_accept 14 = .ok (.istore_n 2, 1) := by decide +kernel
theorem d_As_accept_15 : decode b_As_accept 15 = .ok (.aload_n 0, 1) := by decide +kernel
theorem d_As_accept_16 : decode b_As_accept 16 = .ok (.iload_n 2, 1) := by decide +kernel
theorem d_As_accept_17 : decode b_As_accept 17 = .ok (.bipush 32, 2) := by decide +kernel
theorem d_As_accept_19 : decode b_As_accept 19 = .ok (.if_icmp .ge 14, 3) := by decide +kernel
theorem d_As_accept_22 : decode b_As_accept 22 = .ok (.aload_n 0, 1) := by decide +kernel
theorem d_As_accept_23 : decode b_As_accept 23 = .ok (.getfield 26, 3) := by decide +kernel
theorem d_As_accept_26 : decode b_As_accept 26 = .ok (.iload_n 2, 1) := by decide +kernel
theorem d_As_accept_27 : decode b_As_accept 27 = .ok (.ishl, 1) := by decide +kernel
theorem d_As_accept_28 : decode b_As_accept 28 = .ok (.iconst 1, 1) := by decide +kernel
theorem d_As_accept_29 : decode b_As_accept 29 = .ok (.ior, 1) := by decide +kernel
theorem d_As_accept_30 : decode b_As_accept 30 = .ok (.goto 4, 3) := by decide +kernel
theorem d_As_accept_33 : decode b_As_accept 33 = .ok (.iconst 1, 1) := by decide +kernel
theorem d_As_accept_34 : decode b_As_accept 34 = .ok (.putfield 26, 3) := by decide +kernel
theorem d_As_accept_37 : decode b_As_accept 37 = .ok (.aload_n 0, 1) := by decide +kernel
theorem d_As_accept_38 : decode b_As_accept 38 = .ok (.iload_n 1, 1) := by decide +kernel
theorem d_As_accept_39 : decode b_As_accept 39 = .ok (.putfield 20, 3) := by decide +kernel
theorem d_As_accept_42 : decode b_As_accept 42 = .ok (.goto 20, 3) := by decide +kernel
theorem d_As_accept_45 : decode b_As_accept 45 = .ok (.aload_n 0, 1) := by decide +kernel
theorem d_As_accept_46 : decode b_As_accept 46 = .ok (.aload_n 0, 1) := by decide +kernel
theorem d_As_accept_47 : decode b_As_accept 47 = .ok (.getfield 26, 3) := by decide +kernel
theorem d_As_accept_50 : decode b_As_accept 50 = .ok (.iconst 1, 1) := by decide +kernel
theorem d_As_accept_51 : decode b_As_accept 51 = .ok (.aload_n 0, 1) := by decide +kernel
theorem d_As_accept_52 : decode b_As_accept 52 = .ok (.getfield 20, 3) := by decide +kernel
theorem d_As_accept_55 : decode b_As_accept 55 = .ok (.iload_n 1, 1) := by decide +kernel
theorem d_As_accept_56 : decode b_As_accept 56 = .ok (.isub, 1) := by decide +kernel
theorem d_As_accept_57 : decode b_As_accept 57 = .ok (.ishl, 1) := by decide +kernel
theorem d_As_accept_58 : decode b_As_accept 58 = .ok (.ior, 1) := by decide +kernel
theorem d_As_accept_59 : decode b_As_accept 59 = .ok (.putfield 26, 3) := by decide +kernel
theorem d_As_accept_62 : decode b_As_accept 62 = .ok (.return_, 1) := by decide +kernel
