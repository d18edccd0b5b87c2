theorem d_Ex_init_0 : decode b_Ex_init 0 = .ok (.aload_n 0, 1) := by decide +kernel
theorem d_Ex_init_1 : decode b_Ex_init 1 = .ok (.invokespecial 3, 3) := by decide +kernel
theorem d_Ex_init_4 : decode b_Ex_init 4 = .ok (.aload_n 0, 1) := by decide +kernel
theorem d_Ex_init_5 : decode b_Ex_init 5 = .ok (.iconst 4, 1) := by decide +kernel
theorem d_Ex_init_6 : decode b_Ex_init 6 = .ok (.newarray .int, 2) := by decide +kernel
theorem d_Ex_init_8 : decode b_Ex_init 8 = .ok (.putfield 11, 3) := by decide +kernel
theorem d_Ex_init_11 : decode b_Ex_init 11 = .ok (.aload_n 0, 1) := by decide +kernel
theorem d_Ex_init_12 : decode b_Ex_init 12 = .ok (.iconst 4, 1) := by decide +kernel
theorem d_Ex_init_13 : decode b_Ex_init 13 = .ok (.newarray .int, 2) := by decide +kernel
theorem d_Ex_init_15 : decode b_Ex_init 15 = .ok (.putfield 15, 3) := by decide +kernel
theorem d_Ex_init_18 : decode b_Ex_init 18 = .ok (.aload_n 0, 1) := by decide +kernel
theorem d_Ex_init_19 : decode b_Ex_init 19 = .ok (.iconst 4, 1) := by decide +kernel
theorem d_Ex_init_20 : decode b_Ex_init 20 = .ok (.newarray .int, 2) := by decide +kernel
theorem d_Ex_init_22 : decode b_Ex_init 22 = .ok (.putfield 18, 3) := by decide +kernel
theorem d_Ex_init_25 : decode b_Ex_init 25 = .ok (.aload_n 0, 1) := by decide +kernel
theorem d_Ex_init_26 : decode b_Ex_init 26 = .ok (.iconst 0, 1) := by decide +kernel
theorem d_Ex_init_27 : decode b_Ex_init 27 = .ok (.putfield 21, 3) := by decide +kernel
theorem d_Ex_init_30 : decode b_Ex_init 30 = .ok (.return_, 1) := by decide +kernel
theorem d_Ex_insideOfPort_0 : decode b_Ex_insideOfPort 0 = .ok (.aload_n 0, 1) := by decide +kernel
theorem d_Ex_insideOfPort_1 : decode b_Ex_insideOfPort 1 = .ok (.iload_n 1, 1) := by decide +kernel
theorem d_Ex_insideOfPort_2 : decode b_Ex_insideOfPort 2 = .ok (.iload_n 2, 1) := by decide +kernel
theorem d_Ex_insideOfPort_3 : decode b_Ex_insideOfPort 3 = .ok (.invokevirtual 25, 3) := by decide +kernel
theorem d_Ex_insideOfPort_6 : decode b_Ex_insideOfPort 6 = .ok (.istore_n 3, 1) := by decide +kernel
theorem d_Ex_insideOfPort_7 : decode b_Ex_insideOfPort 7 = .ok (.iload_n 3, 1) := by decide +kernel
theorem d_Ex_insideOfPort_8 : decode b_Ex_insideOfPort 8 = .ok (.iconst (-1), 1) := by decide +kernel
theorem d_Ex_insideOfPort_9 : decode b_Ex_insideOfPort 9 = .ok (.if_icmp .ne 7, 3) := by decide +kernel
theorem d_Ex_insideOfPort_12 : decode b_Ex_insideOfPort 12 = .ok (.iconst (-1), 1) := by decide +kernel
theorem d_Ex_insideOfPort_13 : decode b_Ex_insideOfPort 13 = .ok (.goto 9, 3) := by decide +kernel
theorem d_Ex_insideOfPort_16 : decode b_Ex_insideOfPort 16 = .ok (.aload_n 0, 1) := by decide +kernel
theorem d_Ex_insideOfPort_17 : decode b_Ex_insideOfPort 17 = .ok (.getfield 18, 3) := by decide +kernel
theorem d_Ex_insideOfPort_20 : decode b_Ex_insideOfPort 20 = .ok (.iload_n 3, 1) := by decide +kernel
theorem d_Ex_insideOfPort_21 : decode b_Ex_insideOfPort 21 = .ok (.iaload, 1) := by decide +kernel
theorem d_Ex_insideOfPort_22 : decode b_Ex_insideOfPort 22 = .ok (.ireturn, 1) := by decide +kernel
theorem d_Ex_find_0 : decode b_Ex_find 0 = .ok (.iconst 0, 1) := by decide +kernel
theorem d_Ex_find_1 : decode b_Ex_find 1 = .ok (.istore_n 3, 1) := by decide +kernel
theorem d_Ex_find_2 : decode b_Ex_find 2 = .ok (.iload_n 3, 1) := by decide +kernel
theorem d_Ex_find_3 : decode b_Ex_find 3 = .ok (.aload_n 0, 1) := by decide +kernel
theorem d_Ex_find_4 : decode b_Ex_find 4 = .ok (.getfield 21, 3) := by decide +kernel
theorem d_Ex_find_7 : decode b_Ex_find 7 = .ok (.if_icmp .ge 31, 3) := by decide +kernel
theorem d_Ex_find_10 : decode b_Ex_find 10 = .ok (.aload_n 0, 1) := by decide +kernel
theorem d_Ex_find_11 : decode b_Ex_find 11 = .ok (.getfield 11, 3) := by decide +kernel
theorem d_Ex_find_14 : decode b_Ex_find 14 = .ok (.iload_n 3, 1) := by decide +kernel
theorem d_Ex_find_15 : decode b_Ex_find 15 = .ok (.iaload, 1) := by decide +kernel
theorem d_Ex_find_16 : decode b_Ex_find 16 = .ok (.iload_n 1, 1) := by decide +kernel
theorem d_Ex_find_17 : decode b_Ex_find 17 = .ok (.if_icmp .ne 15, 3) := by decide +kernel
theorem d_Ex_find_20 : decode b_Ex_find 20 = .ok (.aload_n 0, 1) := by decide +kernel
theorem d_Ex_find_21 : decode b_Ex_find 21 = .ok (.getfield 15, 3) := by decide +kernel
theorem d_Ex_find_24 : decode b_Ex_find 24 = .ok (.iload_n 3, 1) := by decide +kernel
theorem d_Ex_find_25 : decode b_Ex_find 25 = .ok (.iaload, 1) := by decide +kernel
theorem d_Ex_find_26 : decode b_Ex_find 26 = .ok (.iload_n 2, 1) := by decide +kernel
theorem d_Ex_find_27 : decode b_Ex_find 27 = .ok (.if_icmp .ne 5, 3) := by decide +kernel
theorem d_Ex_find_30 : decode b_Ex_find 30 = .ok (.iload_n 3, 1) := by decide +kernel
theorem d_Ex_find_31 : decode b_Ex_find 31 = .ok (.ireturn, 1) := by decide +kernel
theorem d_Ex_find_32 : decode b_Ex_find 32 = .ok (.iinc 3 1, 3) := by decide +kernel
theorem d_Ex_find_35 : decode b_Ex_find 35 = .ok (.goto (-33), 3) := by decide +kernel
theorem d_Ex_find_38 : decode b_Ex_find 38 = .ok (.iconst (-1), 1) := by decide +kernel
theorem d_Ex_find_39 : decode b_Ex_find 39 = .ok (.ireturn, 1) := by decide +kernel
theorem d_Ex_portOfInside_0 : decode b_Ex_portOfInside 0 = .ok (.iconst 0, 1) := by decide +kernel
theorem d_Ex_portOfInside_1 : decode b_Ex_portOfInside 1 = .ok (.istore_n 3, 1) := by decide +kernel
theorem d_Ex_portOfInside_2 : decode b_Ex_portOfInside 2 = .ok (.iload_n 3, 1) := by decide +kernel
theorem d_Ex_portOfInside_3 : decode b_Ex_portOfInside 3 = .ok (.aload_n 0, 1) := by decide +kernel
theorem d_Ex_portOfInside_4 : decode b_Ex_portOfInside 4 = .ok (.getfield 21, 3) := by decide +kernel
theorem d_Ex_portOfInside_7 : decode b_Ex_portOfInside 7 = .ok (.if_icmp .ge 36, 3) := by decide +kernel
theorem d_Ex_portOfInside_10 : decode b_Ex_portOfInside 10 = .ok (.aload_n 0, 1) := by decide +kernel
theorem d_Ex_portOfInside_11 : decode b_Ex_portOfInside 11 = .ok (.getfield 11, 3) := by decide +kernel
theorem d_Ex_portOfInside_14 : decode b_Ex_portOfInside 14 = .ok (.iload_n 3, 1) := by decide +kernel
theorem d_Ex_portOfInside_15 : decode b_Ex_portOfInside 15 = .ok (.iaload, 1) := by decide +kernel
theorem d_Ex_portOfInside_16 : decode b_Ex_portOfInside 16 = .ok (.iload_n 1, 1) := by decide +kernel
theorem d_Ex_portOfInside_17 : decode b_Ex_portOfInside 17 = .ok (.if_icmp .ne 20, 3) := by decide +kernel
theorem d_Ex_portOfInside_20 : decode b_Ex_portOfInside 20 = .ok (.aload_n 0, 1) := by decide +kernel
theorem d_Ex_portOfInside_21 : decode b_Ex_portOfInside 21 = .ok (.getfield 18, 3) := by decide +kernel
theorem d_Ex_portOfInside_24 : decode b_Ex_portOfInside 24 = .ok (.iload_n 3, 1) := by decide +kernel
theorem d_Ex_portOfInside_25 : decode b_Ex_portOfInside 25 = .ok (.iaload, 1) := by decide +kernel
theorem d_Ex_portOfInside_26 : decode b_Ex_portOfInside 26 = .ok (.iload_n 2, 1) := by decide +kernel
theorem d_Ex_portOfInside_27 : decode b_Ex_portOfInside 27 = .ok (.if_icmp .ne 10, 3) := by decide +kernel
theorem d_Ex_portOfInside_30 : decode b_Ex_portOfInside 30 = .ok (.aload_n 0, 1) := by decide +kernel
theorem d_Ex_portOfInside_31 : decode b_Ex_portOfInside 31 = .ok (.getfield 15, 3) := by decide +kernel
theorem d_Ex_portOfInside_34 : decode b_Ex_portOfInside 34 = .ok (.iload_n 3, 1) := by decide +kernel
theorem d_Ex_portOfInside_35 : decode b_Ex_portOfInside 35 = .ok (.iaload, 1) := by decide +kernel
theorem d_Ex_portOfInside_36 : decode b_Ex_portOfInside 36 = .ok (.ireturn, 1) := by decide +kernel
theorem d_Ex_portOfInside_37 : decode b_Ex_portOfInside 37 = .ok (.iinc 3 1, 3) := by decide +kernel
theorem d_Ex_portOfInside_40 : decode b_Ex_portOfInside 40 = .ok (.goto (-38), 3) := by decide +kernel
theorem d_Ex_portOfInside_43 : decode b_Ex_portOfInside 43 = .ok (.iconst (-1), 1) := by decide +kernel
theorem d_Ex_portOfInside_44 : decode b_Ex_portOfInside 44 = .ok (.ireturn, 1) := by decide +kernel
theorem d_Ex_isFull_0 : decode b_Ex_isFull 0 = .ok (.aload_n 0, 1) := by decide +kernel
theorem d_Ex_isFull_1 : decode b_Ex_isFull 1 = .ok (.getfield 21, 3) := by decide +kernel
theorem d_Ex_isFull_4 : decode b_Ex_isFull 4 = .ok (.iconst 4, 1) := by decide +kernel
theorem d_Ex_isFull_5 : decode b_Ex_isFull 5 = .ok (.if_icmp .lt 7, 3) := by decide +kernel
theorem d_Ex_isFull_8 : decode b_Ex_isFull 8 = .ok (.iconst 1, 1) := by decide +kernel
theorem d_Ex_isFull_9 : decode b_Ex_isFull 9 = .ok (.goto 4, 3) := by decide +kernel
theorem d_Ex_isFull_12 : decode b_Ex_isFull 12 = .ok (.iconst 0, 1) := by decide +kernel
theorem d_Ex_isFull_13 : decode b_Ex_isFull 13 = .ok (.ireturn, 1) := by decide +kernel
theorem d_Ex_add_0 : decode b_Ex_add 0 = .ok (.aload_n 0, 1) := by decide +kernel
theorem d_Ex_add_1 : decode b_Ex_add 1 = .ok (.getfield 11, 3) := by decide +kernel
theorem d_Ex_add_4 : decode b_Ex_add 4 = .ok (.aload_n 0, 1) := by decide +kernel
theorem d_Ex_add_5 : decode b_Ex_add 5 = .ok (.getfield 21, 3) := by decide +kernel
theorem d_Ex_add_8 : decode b_Ex_add 8 = .ok (.iload_n 1, 1) := by decide +kernel
theorem d_Ex_add_9 : decode b_Ex_add 9 = .ok (.iastore, 1) := by decide +kernel
theorem d_Ex_add_10 : decode b_Ex_add 10 = .ok (.aload_n 0, 1) := by decide +kernel
theorem d_Ex_add_11 : decode b_Ex_add 11 = .ok (.getfield 15, 3) := by decide +kernel
theorem d_Ex_add_14 : decode b_Ex_add 14 = .ok (.aload_n 0, 1) := by decide +kernel
theorem d_Ex_add_15 : decode b_Ex_add 15 = .ok (.getfield 21, 3) := by decide +kernel
theorem d_Ex_add_18 : decode b_Ex_add 18 = .ok (.iload_n 2, 1) := by decide +kernel
theorem d_Ex_add_19 : decode b_Ex_add 19 = .ok (.iastore, 1) := by decide +kernel
theorem d_Ex_add_20 : decode b_Ex_add 20 = .ok (.aload_n 0, 1) := by decide +kernel
theorem d_Ex_add_21 : decode b_Ex_add 21 = .ok (.getfield 18, 3) := by decide +kernel
theorem d_Ex_add_24 : decode b_Ex_add 24 = .ok (.aload_n 0, 1) := by decide +kernel
theorem d_Ex_add_25 : decode b_Ex_add 25 = .ok (.getfield 21, 3) := by decide +kernel
theorem d_Ex_add_28 : decode b_Ex_add 28 = .ok (.iload_n 3, 1) := by decide +kernel
theorem d_Ex_add_29 : decode b_Ex_add 29 = .ok (.iastore, 1) := by decide +kernel
theorem d_Ex_add_30 : decode b_Ex_add 30 = .ok (.aload_n 0, 1) := by decide +kernel
theorem d_Ex_add_31 : decode b_Ex_add 31 = .ok (.dup, 1) := by decide +kernel
theorem d_Ex_add_32 : decode b_Ex_add 32 = .ok (.getfield 21, 3) := by decide +kernel
theorem d_Ex_add_35 : decode b_Ex_add 35 = .ok (.iconst 1, 1) := by decide +kernel
theorem d_Ex_add_36 : decode b_Ex_add 36 = .ok (.iadd, 1) := by decide +kernel
theorem d_Ex_add_37 : decode b_Ex_add 37 = .ok (.putfield 21, 3) := by decide +kernel
theorem d_Ex_add_40 : decode b_Ex_add 40 = .ok (.return_, 1) := by decide +kernel
theorem d_Ex_remove_0 : decode b_Ex_remove 0 = .ok (.aload_n 0, 1) := by decide +kernel
theorem d_Ex_remove_1 : decode b_Ex_remove 1 = .ok (.getfield 21, 3) := by decide +kernel
theorem d_Ex_remove_4 : decode b_Ex_remove 4 = .ok (.iconst 1, 1) := by decide +kernel
theorem d_Ex_remove_5 : decode b_Ex_remove 5 = .ok (.isub, 1) := by decide +kernel
theorem d_Ex_remove_6 : decode b_Ex_remove 6 = .ok (.istore_n 2, 1) := by decide +kernel
theorem d_Ex_remove_7 : decode b_Ex_remove 7 = .ok (.aload_n 0, 1) := by decide +kernel
theorem d_Ex_remove_8 : decode b_Ex_remove 8 = .ok (.getfield 11, 3) := by decide +kernel
theorem d_Ex_remove_11 : decode b_Ex_remove 11 = .ok (.iload_n 1, 1) := by decide +kernel
theorem d_Ex_remove_12 : decode b_Ex_remove 12 = .ok (.aload_n 0, 1) := by decide +kernel
theorem d_Ex_remove_13 : decode b_Ex_remove 13 = .ok (.getfield 11, 3) := by decide +kernel
theorem d_Ex_remove_16 : decode b_Ex_remove 16 = .ok (.iload_n 2, 1) := by decide +kernel
theorem d_Ex_remove_17 : decode b_Ex_remove 17 = .ok (.iaload, 1) := by decide +kernel
theorem d_Ex_remove_18 : decode b_Ex_remove 18 = .ok (.iastore, 1) := by decide +kernel
theorem d_Ex_remove_19 : decode b_Ex_remove 19 = .ok (.aload_n 0, 1) := by decide +kernel
theorem d_Ex_remove_20 : decode b_Ex_remove 20 = .ok (.getfield 15, 3) := by decide +kernel
theorem d_Ex_remove_23 : decode b_Ex_remove 23 = .ok (.iload_n 1, 1) := by decide +kernel
theorem d_Ex_remove_24 : decode b_Ex_remove 24 = .ok (.aload_n 0, 1) := by decide +kernel
theorem d_Ex_remove_25 : decode b_Ex_remove 25 = .ok (.getfield 15, 3) := by decide +kernel
theorem d_Ex_remove_28 : decode b_Ex_remove 28 = .ok (.iload_n 2, 1) := by decide +kernel
theorem d_Ex_remove_29 : decode b_Ex_remove 29 = .ok (.iaload, 1) := by decide +kernel
theorem d_Ex_remove_30 : decode b_Ex_remove 30 = .ok (.iastore, 1) := by decide +kernel
theorem d_Ex_remove_31 : decode b_Ex_remove 31 = .ok (.aload_n 0, 1) := by decide +kernel
theorem d_Ex_remove_32 : decode b_Ex_remove 32 = .ok (.getfield 18, 3) := by decide +kernel
theorem d_Ex_remove_35 : decode b_Ex_remove 35 = .ok (.iload_n 1, 1) := by decide +kernel
theorem d_Ex_remove_36 : decode b_Ex_remove 36 = .ok (.aload_n 0, 1) := by decide +kernel
theorem d_Ex_remove_37 : decode b_Ex_remove 37 = .ok (.getfield 18, 3) := by decide +kernel
theorem d_Ex_remove_40 : decode b_Ex_remove 40 = .ok (.iload_n 2, 1) := by decide +kernel
theorem d_Ex_remove_41 : decode b_Ex_remove 41 = .ok (.iaload, 1) := by decide +kernel
theorem d_Ex_remove_42 : decode b_Ex_remove 42 = .ok (.iastore, 1) := by decide +kernel
theorem d_Ex_remove_43 : decode b_Ex_remove 43 = .ok (.aload_n 0, 1) := by decide +kernel
theorem d_Ex_remove_44 : decode b_Ex_remove 44 = .ok (.iload_n 2, 1) := by decide +kernel
theorem d_Ex_remove_45 : decode b_Ex_remove 45 = .ok (.putfield 21, 3) := by decide +kernel
theorem d_Ex_remove_48 : decode b_Ex_remove 48 = .ok (.return_, 1) := by decide +kernel
