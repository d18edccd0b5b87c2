theorem d_Ft_init_0 : decode b_Ft_init 0 = .ok (.aload_n 0, 1) := by decide +kernel
theorem d_Ft_init_1 : decode b_Ft_init 1 = .ok (.invokespecial 3, 3) := by decide +kernel
theorem d_Ft_init_4 : decode b_Ft_init 4 = .ok (.aload_n 0, 1) := by decide +kernel
theorem d_Ft_init_5 : decode b_Ft_init 5 = .ok (.bipush 16, 2) := by decide +kernel
theorem d_Ft_init_7 : decode b_Ft_init 7 = .ok (.anewarray 11, 3) := by decide +kernel
theorem d_Ft_init_10 : decode b_Ft_init 10 = .ok (.putfield 13, 3) := by decide +kernel
theorem d_Ft_init_13 : decode b_Ft_init 13 = .ok (.iconst 0, 1) := by decide +kernel
theorem d_Ft_init_14 : decode b_Ft_init 14 = .ok (.istore_n 1, 1) := by decide +kernel
theorem d_Ft_init_15 : decode b_Ft_init 15 = .ok (.iload_n 1, 1) := by decide +kernel
theorem d_Ft_init_16 : decode b_Ft_init 16 = .ok (.aload_n 0, 1) := by decide +kernel
theorem d_Ft_init_17 : decode b_Ft_init 17 = .ok (.getfield 13, 3) := by decide +kernel
theorem d_Ft_init_20 : decode b_Ft_init 20 = .ok (.arraylength, 1) := by decide +kernel
theorem d_Ft_init_21 : decode b_Ft_init 21 = .ok (.if_icmp .ge 22, 3) := by decide +kernel
theorem d_Ft_init_24 : decode b_Ft_init 24 = .ok (.aload_n 0, 1) := by decide +kernel
theorem d_Ft_init_25 : decode b_Ft_init 25 = .ok (.getfield 13, 3) := by decide +kernel
theorem d_Ft_init_28 : decode b_Ft_init 28 = .ok (.iload_n 1, 1) := by decide +kernel
theorem d_Ft_init_29 : decode b_Ft_init 29 = .ok (.new 11, 3) := by decide +kernel
theorem d_Ft_init_32 : decode b_Ft_init 32 = .ok (.dup, 1) := by decide +kernel
theorem d_Ft_init_33 : decode b_Ft_init 33 = .ok (.invokespecial 17, 3) := by decide +kernel
theorem d_Ft_init_36 : decode b_Ft_init 36 = .ok (.aastore, 1) := by decide +kernel
theorem d_Ft_init_37 : decode b_Ft_init 37 = .ok (.iinc 1 1, 3) := by decide +kernel
theorem d_Ft_init_40 : decode b_Ft_init 40 = .ok (.goto (-25), 3) := by decide +kernel
theorem d_Ft_init_43 : decode b_Ft_init 43 = .ok (.aload_n 0, 1) := by decide +kernel
theorem d_Ft_init_44 : decode b_Ft_init 44 = .ok (.iconst 0, 1) := by decide +kernel
theorem d_Ft_init_45 : decode b_Ft_init 45 = .ok (.putfield 18, 3) := by decide +kernel
theorem d_Ft_init_48 : decode b_Ft_init 48 = .ok (.return_, 1) := by decide +kernel
theorem d_Ft_insideOfPort_0 : decode b_Ft_insideOfPort 0 = .ok (.aload_n 0, 1) := by decide +kernel
theorem d_Ft_insideOfPort_1 : decode b_Ft_insideOfPort 1 = .ok (.iload_n 1, 1) := by decide +kernel
theorem d_Ft_insideOfPort_2 : decode b_Ft_insideOfPort 2 = .ok (.iload_n 2, 1) := by decide +kernel
theorem d_Ft_insideOfPort_3 : decode b_Ft_insideOfPort 3 = .ok (.invokevirtual 49, 3) := by decide +kernel
theorem d_Ft_insideOfPort_6 : decode b_Ft_insideOfPort 6 = .ok (.istore_n 3, 1) := by decide +kernel
theorem d_Ft_insideOfPort_7 : decode b_Ft_insideOfPort 7 = .ok (.iload_n 3, 1) := by decide +kernel
theorem d_Ft_insideOfPort_8 : decode b_Ft_insideOfPort 8 = .ok (.iconst (-1), 1) := by decide +kernel
theorem d_Ft_insideOfPort_9 : decode b_Ft_insideOfPort 9 = .ok (.if_icmp .ne 7, 3) := by decide +kernel
theorem d_Ft_insideOfPort_12 : decode b_Ft_insideOfPort 12 = .ok (.iconst (-1), 1) := by decide +kernel
theorem d_Ft_insideOfPort_13 : decode b_Ft_insideOfPort 13 = .ok (.goto 12, 3) := by decide +kernel
theorem d_Ft_insideOfPort_16 : decode b_Ft_insideOfPort 16 = .ok (.aload_n 0, 1) := by decide +kernel
theorem d_Ft_insideOfPort_17 : decode b_Ft_insideOfPort 17 = .ok (.getfield 13, 3) := by decide +kernel
theorem d_Ft_insideOfPort_20 : decode b_Ft_insideOfPort 20 = .ok (.iload_n 3, 1) := by decide +kernel
theorem d_Ft_insideOfPort_21 : decode b_Ft_insideOfPort 21 = .ok (.aaload, 1) := by decide +kernel
theorem d_Ft_insideOfPort_22 : decode b_Ft_insideOfPort 22 = .ok (.getfield 25, 3) := by decide +kernel
theorem d_Ft_insideOfPort_25 : decode b_Ft_insideOfPort 25 = .ok (.ireturn, 1) := by decide +kernel
theorem d_Ft_findPort_0 : decode b_Ft_findPort 0 = .ok (.iconst 0, 1) := by decide +kernel
theorem d_Ft_findPort_1 : decode b_Ft_findPort 1 = .ok (.istore_n 3, 1) := by decide +kernel
theorem d_Ft_findPort_2 : decode b_Ft_findPort 2 = .ok (.iload_n 3, 1) := by decide +kernel
theorem d_Ft_findPort_3 : decode b_Ft_findPort 3 = .ok (.aload_n 0, 1) := by decide +kernel
theorem d_Ft_findPort_4 : decode b_Ft_findPort 4 = .ok (.getfield 18, 3) := by decide +kernel
theorem d_Ft_findPort_7 : decode b_Ft_findPort 7 = .ok (.if_icmp .ge 37, 3) := by decide +kernel
theorem d_Ft_findPort_10 : decode b_Ft_findPort 10 = .ok (.aload_n 0, 1) := by decide +kernel
theorem d_Ft_findPort_11 : decode b_Ft_findPort 11 = .ok (.getfield 13, 3) := by decide +kernel
theorem d_Ft_findPort_14 : decode b_Ft_findPort 14 = .ok (.iload_n 3, 1) := by decide +kernel
theorem d_Ft_findPort_15 : decode b_Ft_findPort 15 = .ok (.aaload, 1) := by decide +kernel
theorem d_Ft_findPort_16 : decode b_Ft_findPort 16 = .ok (.getfield 22, 3) := by decide +kernel
theorem d_Ft_findPort_19 : decode b_Ft_findPort 19 = .ok (.iload_n 1, 1) := by decide +kernel
theorem d_Ft_findPort_20 : decode b_Ft_findPort 20 = .ok (.if_icmp .ne 18, 3) := by decide +kernel
theorem d_Ft_findPort_23 : decode b_Ft_findPort 23 = .ok (.aload_n 0, 1) := by decide +kernel
theorem d_Ft_findPort_24 : decode b_Ft_findPort 24 = .ok (.getfield 13, 3) := by decide +kernel
theorem d_Ft_findPort_27 : decode b_Ft_findPort 27 = .ok (.iload_n 3, 1) := by decide +kernel
theorem d_Ft_findPort_28 : decode b_Ft_findPort 28 = .ok (.aaload, 1) := by decide +kernel
theorem d_Ft_findPort_29 : decode b_Ft_findPort 29 = .ok (.getfield 46, 3) := by decide +kernel
theorem d_Ft_findPort_32 : decode b_Ft_findPort 32 = .ok (.iload_n 2, 1) := by decide +kernel
theorem d_Ft_findPort_33 : decode b_Ft_findPort 33 = .ok (.if_icmp .ne 5, 3) := by decide +kernel
theorem d_Ft_findPort_36 : decode b_Ft_findPort 36 = .ok (.iload_n 3, 1) := by decide +kernel
theorem d_Ft_findPort_37 : decode b_Ft_findPort 37 = .ok (.ireturn, 1) := by decide +kernel
theorem d_Ft_findPort_38 : decode b_Ft_findPort 38 = .ok (.iinc 3 1, 3) := by decide +kernel
theorem d_Ft_findPort_41 : decode b_Ft_findPort 41 = .ok (.goto (-39), 3) := by decide +kernel
theorem d_Ft_findPort_44 : decode b_Ft_findPort 44 = .ok (.iconst (-1), 1) := by decide +kernel
theorem d_Ft_findPort_45 : decode b_Ft_findPort 45 = .ok (.ireturn, 1) := by decide +kernel
theorem d_Ft_portOfInside_0 : decode b_Ft_portOfInside 0 = .ok (.iconst 0, 1) := by decide +kernel
theorem d_Ft_portOfInside_1 : decode b_Ft_portOfInside 1 = .ok (.istore_n 3, 1) := by decide +kernel
theorem d_Ft_portOfInside_2 : decode b_Ft_portOfInside 2 = .ok (.iload_n 3, 1) := by decide +kernel
theorem d_Ft_portOfInside_3 : decode b_Ft_portOfInside 3 = .ok (.aload_n 0, 1) := by decide +kernel
theorem d_Ft_portOfInside_4 : decode b_Ft_portOfInside 4 = .ok (.getfield 18, 3) := by decide +kernel
theorem d_Ft_portOfInside_7 : decode b_Ft_portOfInside 7 = .ok (.if_icmp .ge 45, 3) := by decide +kernel
theorem d_Ft_portOfInside_10 : decode b_Ft_portOfInside 10 = .ok (.aload_n 0, 1) := by decide +kernel
theorem d_Ft_portOfInside_11 : decode b_Ft_portOfInside 11 = .ok (.getfield 13, 3) := by decide +kernel
theorem d_Ft_portOfInside_14 : decode b_Ft_portOfInside 14 = .ok (.iload_n 3, 1) := by decide +kernel
theorem d_Ft_portOfInside_15 : decode b_Ft_portOfInside 15 = .ok (.aaload, 1) := by decide +kernel
theorem d_Ft_portOfInside_16 : decode b_Ft_portOfInside 16 = .ok (.getfield 22, 3) := by decide +kernel
theorem d_Ft_portOfInside_19 : decode b_Ft_portOfInside 19 = .ok (.iload_n 1, 1) := by decide +kernel
theorem d_Ft_portOfInside_20 : decode b_Ft_portOfInside 20 = .ok (.if_icmp .ne 26, 3) := by decide +kernel
theorem d_Ft_portOfInside_23 : decode b_Ft_portOfInside 23 = .ok (.aload_n 0, 1) := by decide +kernel
theorem d_Ft_portOfInside_24 : decode b_Ft_portOfInside 24 = .ok (.getfield 13, 3) := by decide +kernel
theorem d_Ft_portOfInside_27 : decode b_Ft_portOfInside 27 = .ok (.iload_n 3, 1) := by decide +kernel
theorem d_Ft_portOfInside_28 : decode b_Ft_portOfInside 28 = .ok (.aaload, 1) := by decide +kernel
theorem d_Ft_portOfInside_29 : decode b_Ft_portOfInside 29 = .ok (.getfield 25, 3) := by decide +kernel
theorem d_Ft_portOfInside_32 : decode b_Ft_portOfInside 32 = .ok (.iload_n 2, 1) := by decide +kernel
theorem d_Ft_portOfInside_33 : decode b_Ft_portOfInside 33 = .ok (.if_icmp .ne 13, 3) := by decide +kernel
theorem d_Ft_portOfInside_36 : decode b_Ft_portOfInside 36 = .ok (.aload_n 0, 1) := by decide +kernel
theorem d_Ft_portOfInside_37 : decode b_Ft_portOfInside 37 = .ok (.getfield 13, 3) := by decide +kernel
theorem d_Ft_portOfInside_40 : decode b_Ft_portOfInside 40 = .ok (.iload_n 3, 1) := by decide +kernel
theorem d_Ft_portOfInside_41 : decode b_Ft_portOfInside 41 = .ok (.aaload, 1) := by decide +kernel
theorem d_Ft_portOfInside_42 : decode b_Ft_portOfInside 42 = .ok (.getfield 46, 3) := by decide +kernel
theorem d_Ft_portOfInside_45 : decode b_Ft_portOfInside 45 = .ok (.ireturn, 1) := by decide +kernel
theorem d_Ft_portOfInside_46 : decode b_Ft_portOfInside 46 = .ok (.iinc 3 1, 3) := by decide +kernel
theorem d_Ft_portOfInside_49 : decode b_Ft_portOfInside 49 = .ok (.goto (-47), 3) := by decide +kernel
theorem d_Ft_portOfInside_52 : decode b_Ft_portOfInside 52 = .ok (.iconst (-1), 1) := by decide +kernel
theorem d_Ft_portOfInside_53 : decode b_Ft_portOfInside 53 = .ok (.ireturn, 1) := by decide +kernel
theorem d_Ft_endMapped_0 : decode b_Ft_endMapped 0 = .ok (.aload_n 0, 1) := by decide +kernel
theorem d_Ft_endMapped_1 : decode b_Ft_endMapped 1 = .ok (.getfield 18, 3) := by decide +kernel
theorem d_Ft_endMapped_4 : decode b_Ft_endMapped 4 = .ok (.iconst 1, 1) := by decide +kernel
theorem d_Ft_endMapped_5 : decode b_Ft_endMapped 5 = .ok (.isub, 1) := by decide +kernel
theorem d_Ft_endMapped_6 : decode b_Ft_endMapped 6 = .ok (.istore_n 3, 1) := by decide +kernel
theorem d_Ft_endMapped_7 : decode b_Ft_endMapped 7 = .ok (.iload_n 3, 1) := by decide +kernel
theorem d_Ft_endMapped_8 : decode b_Ft_endMapped 8 = .ok (.ifCond .lt 40, 3) := by decide +kernel
theorem d_Ft_endMapped_11 : decode b_Ft_endMapped 11 = .ok (.aload_n 0, 1) := by decide +kernel
theorem d_Ft_endMapped_12 : decode b_Ft_endMapped 12 = .ok (.getfield 13, 3) := by decide +kernel
theorem d_Ft_endMapped_15 : decode b_Ft_endMapped 15 = .ok (.iload_n 3, 1) := by decide +kernel
theorem d_Ft_endMapped_16 : decode b_Ft_endMapped 16 = .ok (.aaload, 1) := by decide +kernel
theorem d_Ft_endMapped_17 : decode b_Ft_endMapped 17 = .ok (.getfield 22, 3) := by decide +kernel
theorem d_Ft_endMapped_20 : decode b_Ft_endMapped 20 = .ok (.iload_n 1, 1) := by decide +kernel
theorem d_Ft_endMapped_21 : decode b_Ft_endMapped 21 = .ok (.if_icmp .ne 21, 3) := by decide +kernel
theorem d_Ft_endMapped_24 : decode b_Ft_endMapped 24 = .ok (.aload_n 0, 1) := by decide +kernel
theorem d_Ft_endMapped_25 : decode b_Ft_endMapped 25 = .ok (.getfield 13, 3) := by decide +kernel
theorem d_Ft_endMapped_28 : decode b_Ft_endMapped 28 = .ok (.iload_n 3, 1) := by decide +kernel
theorem d_Ft_endMapped_29 : decode b_Ft_endMapped 29 = .ok (.aaload, 1) := by decide +kernel
theorem d_Ft_endMapped_30 : decode b_Ft_endMapped 30 = .ok (.getfield 46, 3) := by decide +kernel
theorem d_Ft_endMapped_33 : decode b_Ft_endMapped 33 = .ok (.iload_n 2, 1) := by decide +kernel
theorem d_Ft_endMapped_34 : decode b_Ft_endMapped 34 = .ok (.if_icmp .ne 8, 3) := by decide +kernel
theorem d_Ft_endMapped_37 : decode b_Ft_endMapped 37 = .ok (.aload_n 0, 1) := by decide +kernel
theorem d_Ft_endMapped_38 : decode b_Ft_endMapped 38 = .ok (.iload_n 3, 1) := by decide +kernel
theorem d_Ft_endMapped_39 : decode b_Ft_endMapped 39 = .ok (.invokevirtual 38, 3) := by decide +kernel
theorem d_Ft_endMapped_42 : decode b_Ft_endMapped 42 = .ok (.iinc 3 (-1), 3) := by decide +kernel
theorem d_Ft_endMapped_45 : decode b_Ft_endMapped 45 = .ok (.goto (-38), 3) := by decide +kernel
theorem d_Ft_endMapped_48 : decode b_Ft_endMapped 48 = .ok (.return_, 1) := by decide +kernel
theorem d_Ft_remove_0 : decode b_Ft_remove 0 = .ok (.aload_n 0, 1) := by decide +kernel
theorem d_Ft_remove_1 : decode b_Ft_remove 1 = .ok (.getfield 13, 3) := by decide +kernel
theorem d_Ft_remove_4 : decode b_Ft_remove 4 = .ok (.iload_n 1, 1) := by decide +kernel
theorem d_Ft_remove_5 : decode b_Ft_remove 5 = .ok (.aaload, 1) := by decide +kernel
theorem d_Ft_remove_6 : decode b_Ft_remove 6 = .ok (.astore_n 2, 1) := by decide +kernel
theorem d_Ft_remove_7 : decode b_Ft_remove 7 = .ok (.iload_n 1, 1) := by decide +kernel
theorem d_Ft_remove_8 : decode b_Ft_remove 8 = .ok (.iconst 1, 1) := by decide +kernel
theorem d_Ft_remove_9 : decode b_Ft_remove 9 = .ok (.iadd, 1) := by decide +kernel
theorem d_Ft_remove_10 : decode b_Ft_remove 10 = .ok (.istore_n 3, 1) := by decide +kernel
theorem d_Ft_remove_11 : decode b_Ft_remove 11 = .ok (.iload_n 3, 1) := by decide +kernel
theorem d_Ft_remove_12 : decode b_Ft_remove 12 = .ok (.aload_n 0, 1) := by decide +kernel
theorem d_Ft_remove_13 : decode b_Ft_remove 13 = .ok (.getfield 18, 3) := by decide +kernel
theorem d_Ft_remove_16 : decode b_Ft_remove 16 = .ok (.if_icmp .ge 23, 3) := by decide +kernel
theorem d_Ft_remove_19 : decode b_Ft_remove 19 = .ok (.aload_n 0, 1) := by decide +kernel
theorem d_Ft_remove_20 : decode b_Ft_remove 20 = .ok (.getfield 13, 3) := by decide +kernel
theorem d_Ft_remove_23 : decode b_Ft_remove 23 = .ok (.iload_n 3, 1) := by decide +kernel
theorem d_Ft_remove_24 : decode b_Ft_remove 24 = .ok (.iconst 1, 1) := by decide +kernel
theorem d_Ft_remove_25 : decode b_Ft_remove 25 = .ok (.isub, 1) := by decide +kernel
theorem d_Ft_remove_26 : decode b_Ft_remove 26 = .ok (.aload_n 0, 1) := by decide +kernel
theorem d_Ft_remove_27 : decode b_Ft_remove 27 = .ok (.getfield 13, 3) := by decide +kernel
theorem d_Ft_remove_30 : decode b_Ft_remove 30 = .ok (.iload_n 3, 1) := by decide +kernel
theorem d_Ft_remove_31 : decode b_Ft_remove 31 = .ok (.aaload, 1) := by decide +kernel
theorem d_Ft_remove_32 : decode b_Ft_remove 32 = .ok (.aastore, 1) := by decide +kernel
theorem d_Ft_remove_33 : decode b_Ft_remove 33 = .ok (.iinc 3 1, 3) := by decide +kernel
theorem d_Ft_remove_36 : decode b_Ft_remove 36 = .ok (.goto (-25), 3) := by decide +kernel
theorem d_Ft_remove_39 : decode b_Ft_remove 39 = .ok (.aload_n 0, 1) := by decide +kernel
theorem d_Ft_remove_40 : decode b_Ft_remove 40 = .ok (.getfield 13, 3) := by decide +kernel
theorem d_Ft_remove_43 : decode b_Ft_remove 43 = .ok (.aload_n 0, 1) := by decide +kernel
theorem d_Ft_remove_44 : decode b_Ft_remove 44 = .ok (.getfield 18, 3) := by decide +kernel
theorem d_Ft_remove_47 : decode b_Ft_remove 47 = .ok (.iconst 1, 1) := by decide +kernel
theorem d_Ft_remove_48 : decode b_Ft_remove 48 = .ok (.isub, 1) := by decide +kernel
theorem d_Ft_remove_49 : decode b_Ft_remove 49 = .ok (.aload_n 2, 1) := by decide +kernel
theorem d_Ft_remove_50 : decode b_Ft_remove 50 = .ok (.aastore, 1) := by decide +kernel
theorem d_Ft_remove_51 : decode b_Ft_remove 51 = .ok (.aload_n 0, 1) := by decide +kernel
theorem d_Ft_remove_52 : decode b_Ft_remove 52 = .ok (.dup, 1) := by decide +kernel
theorem d_Ft_remove_53 : decode b_Ft_remove 53 = .ok (.getfield 18, 3) := by decide +kernel
theorem d_Ft_remove_56 : decode b_Ft_remove 56 = .ok (.iconst 1, 1) := by decide +kernel
theorem d_Ft_remove_57 : decode b_Ft_remove 57 = .ok (.isub, 1) := by decide +kernel
theorem d_Ft_remove_58 : decode b_Ft_remove 58 = .ok (.putfield 18, 3) := by decide +kernel
theorem d_Ft_remove_61 : decode b_Ft_remove 61 = .ok (.return_, 1) := by decide +kernel
theorem d_Ft_find_0 : decode b_Ft_find 0 = .ok (.iconst 0, 1) := by decide +kernel
theorem d_Ft_find_1 : decode b_Ft_find 1 = .ok (.istore 4, 2) := by decide +kernel
theorem d_Ft_find_3 : decode b_Ft_find 3 = .ok (.iload 4, 2) := by decide +kernel
theorem d_Ft_find_5 : decode b_Ft_find 5 = .ok (.aload_n 0, 1) := by decide +kernel
theorem d_Ft_find_6 : decode b_Ft_find 6 = .ok (.getfield 18, 3) := by decide +kernel
theorem d_Ft_find_9 : decode b_Ft_find 9 = .ok (.if_icmp .ge 48, 3) := by decide +kernel
theorem d_Ft_find_12 : decode b_Ft_find 12 = .ok (.aload_n 0, 1) := by decide +kernel
theorem d_Ft_find_13 : decode b_Ft_find 13 = .ok (.getfield 13, 3) := by decide +kernel
theorem d_Ft_find_16 : decode b_Ft_find 16 = .ok (.iload 4, 2) := by decide +kernel
theorem d_Ft_find_18 : decode b_Ft_find 18 = .ok (.aaload, 1) := by decide +kernel
theorem d_Ft_find_19 : decode b_Ft_find 19 = .ok (.astore 5, 2) := by decide +kernel
theorem d_Ft_find_21 : decode b_Ft_find 21 = .ok (.aload 5, 2) := by decide +kernel
theorem d_Ft_find_23 : decode b_Ft_find 23 = .ok (.getfield 22, 3) := by decide +kernel
theorem d_Ft_find_26 : decode b_Ft_find 26 = .ok (.iload_n 1, 1) := by decide +kernel
theorem d_Ft_find_27 : decode b_Ft_find 27 = .ok (.if_icmp .ne 24, 3) := by decide +kernel
theorem d_Ft_find_30 : decode b_Ft_find 30 = .ok (.aload 5, 2) := by decide +kernel
theorem d_Ft_find_32 : decode b_Ft_find 32 = .ok (.getfield 25, 3) := by decide +kernel
theorem d_Ft_find_35 : decode b_Ft_find 35 = .ok (.iload_n 2, 1) := by decide +kernel
theorem d_Ft_find_36 : decode b_Ft_find 36 = .ok (.if_icmp .ne 15, 3) := by decide +kernel
theorem d_Ft_find_39 : decode b_Ft_find 39 = .ok (.aload 5, 2) := by decide +kernel
theorem d_Ft_find_41 : decode b_Ft_find 41 = .ok (.getfield 28, 3) := by decide +kernel
theorem d_Ft_find_44 : decode b_Ft_find 44 = .ok (.iload_n 3, 1) := by decide +kernel
theorem d_Ft_find_45 : decode b_Ft_find 45 = .ok (.if_icmp .ne 6, 3) := by decide +kernel
theorem d_Ft_find_48 : decode b_Ft_find 48 = .ok (.iload 4, 2) := by decide +kernel
theorem d_Ft_find_50 : decode b_Ft_find 50 = .ok (.ireturn, 1) := by decide +kernel
theorem d_Ft_find_51 : decode b_Ft_find 51 = .ok (.iinc 4 1, 3) := by decide +kernel
theorem d_Ft_find_54 : decode b_Ft_find 54 = .ok (.goto (-51), 3) := by decide +kernel
theorem d_Ft_find_57 : decode b_Ft_find 57 = .ok (.iconst (-1), 1) := by decide +kernel
theorem d_Ft_find_58 : decode b_Ft_find 58 = .ok (.ireturn, 1) := by decide +kernel
theorem d_Ft_get_0 : decode b_Ft_get 0 = .ok (.aload_n 0, 1) := by decide +kernel
theorem d_Ft_get_1 : decode b_Ft_get 1 = .ok (.getfield 13, 3) := by decide +kernel
theorem d_Ft_get_4 : decode b_Ft_get 4 = .ok (.iload_n 1, 1) := by decide +kernel
theorem d_Ft_get_5 : decode b_Ft_get 5 = .ok (.aaload, 1) := by decide +kernel
theorem d_Ft_get_6 : decode b_Ft_get 6 = .ok (.areturn, 1) := by decide +kernel
theorem d_Ft_follow_0 : decode b_Ft_follow 0 = .ok (.aload_n 0, 1) := by decide +kernel
theorem d_Ft_follow_1 : decode b_Ft_follow 1 = .ok (.getfield 13, 3) := by decide +kernel
theorem d_Ft_follow_4 : decode b_Ft_follow 4 = .ok (.iload_n 1, 1) := by decide +kernel
theorem d_Ft_follow_5 : decode b_Ft_follow 5 = .ok (.aaload, 1) := by decide +kernel
theorem d_Ft_follow_6 : decode b_Ft_follow 6 = .ok (.iload_n 2, 1) := by decide +kernel
theorem d_Ft_follow_7 : decode b_Ft_follow 7 = .ok (.iload_n 3, 1) := by decide +kernel
theorem d_Ft_follow_8 : decode b_Ft_follow 8 = .ok (.iload 4, 2) := by decide +kernel
theorem d_Ft_follow_10 : decode b_Ft_follow 10 = .ok (.invokevirtual 31, 3) := by decide +kernel
theorem d_Ft_follow_13 : decode b_Ft_follow 13 = .ok (.ifCond .ne 5, 3) := by decide +kernel
theorem d_Ft_follow_16 : decode b_Ft_follow 16 = .ok (.iconst 0, 1) := by decide +kernel
theorem d_Ft_follow_17 : decode b_Ft_follow 17 = .ok (.ireturn, 1) := by decide +kernel
theorem d_Ft_follow_18 : decode b_Ft_follow 18 = .ok (.aload_n 0, 1) := by decide +kernel
theorem d_Ft_follow_19 : decode b_Ft_follow 19 = .ok (.getfield 13, 3) := by decide +kernel
theorem d_Ft_follow_22 : decode b_Ft_follow 22 = .ok (.iload_n 1, 1) := by decide +kernel
theorem d_Ft_follow_23 : decode b_Ft_follow 23 = .ok (.aaload, 1) := by decide +kernel
theorem d_Ft_follow_24 : decode b_Ft_follow 24 = .ok (.getfield 35, 3) := by decide +kernel
theorem d_Ft_follow_27 : decode b_Ft_follow 27 = .ok (.ifCond .ne 8, 3) := by decide +kernel
theorem d_Ft_follow_30 : decode b_Ft_follow 30 = .ok (.aload_n 0, 1) := by decide +kernel
theorem d_Ft_follow_31 : decode b_Ft_follow 31 = .ok (.iload_n 1, 1) := by decide +kernel
theorem d_Ft_follow_32 : decode b_Ft_follow 32 = .ok (.invokevirtual 38, 3) := by decide +kernel
theorem d_Ft_follow_35 : decode b_Ft_follow 35 = .ok (.iconst 1, 1) := by decide +kernel
theorem d_Ft_follow_36 : decode b_Ft_follow 36 = .ok (.ireturn, 1) := by decide +kernel
theorem d_Ft_isFull_0 : decode b_Ft_isFull 0 = .ok (.aload_n 0, 1) := by decide +kernel
theorem d_Ft_isFull_1 : decode b_Ft_isFull 1 = .ok (.getfield 18, 3) := by decide +kernel
theorem d_Ft_isFull_4 : decode b_Ft_isFull 4 = .ok (.bipush 16, 2) := by decide +kernel
theorem d_Ft_isFull_6 : decode b_Ft_isFull 6 = .ok (.if_icmp .lt 7, 3) := by decide +kernel
theorem d_Ft_isFull_9 : decode b_Ft_isFull 9 = .ok (.iconst 1, 1) := by decide +kernel
theorem d_Ft_isFull_10 : decode b_Ft_isFull 10 = .ok (.goto 4, 3) := by decide +kernel
theorem d_Ft_isFull_13 : decode b_Ft_isFull 13 = .ok (.iconst 0, 1) := by decide +kernel
theorem d_Ft_isFull_14 : decode b_Ft_isFull 14 = .ok (.ireturn, 1) := by decide +kernel
theorem d_Ft_freePort_0 : decode b_Ft_freePort 0 = .ok (.bipush 100, 2) := by decide +kernel
theorem d_Ft_freePort_2 : decode b_Ft_freePort 2 = .ok (.istore_n 2, 1) := by decide +kernel
theorem d_Ft_freePort_3 : decode b_Ft_freePort 3 = .ok (.iload_n 2, 1) := by decide +kernel
theorem d_Ft_freePort_4 : decode b_Ft_freePort 4 = .ok (.bipush 111, 2) := by decide +kernel
theorem d_Ft_freePort_6 : decode b_Ft_freePort 6 = .ok (.if_icmp .gt 21, 3) := by decide +kernel
theorem d_Ft_freePort_9 : decode b_Ft_freePort 9 = .ok (.aload_n 0, 1) := by decide +kernel
theorem d_Ft_freePort_10 : decode b_Ft_freePort 10 = .ok (.iload_n 1, 1) := by decide +kernel
theorem d_Ft_freePort_11 : decode b_Ft_freePort 11 = .ok (.iload_n 2, 1) := by decide +kernel
theorem d_Ft_freePort_12 : decode b_Ft_freePort 12 = .ok (.invokevirtual 49, 3) := by decide +kernel
theorem d_Ft_freePort_15 : decode b_Ft_freePort 15 = .ok (.iconst (-1), 1) := by decide +kernel
theorem d_Ft_freePort_16 : decode b_Ft_freePort 16 = .ok (.if_icmp .ne 5, 3) := by decide +kernel
theorem d_Ft_freePort_19 : decode b_Ft_freePort 19 = .ok (.iload_n 2, 1) := by decide +kernel
theorem d_Ft_freePort_20 : decode b_Ft_freePort 20 = .ok (.ireturn, 1) := by decide +kernel
theorem d_Ft_freePort_21 : decode b_Ft_freePort 21 = .ok (.iinc 2 1, 3) := by decide +kernel
theorem d_Ft_freePort_24 : decode b_Ft_freePort 24 = .ok (.goto (-21), 3) := by decide +kernel
theorem d_Ft_freePort_27 : decode b_Ft_freePort 27 = .ok (.iconst (-1), 1) := by decide +kernel
theorem d_Ft_freePort_28 : decode b_Ft_freePort 28 = .ok (.ireturn, 1) := by decide +kernel
theorem d_Ft_addSpare_0 : decode b_Ft_addSpare 0 = .ok (.aload_n 0, 1) := by decide +kernel
theorem d_Ft_addSpare_1 : decode b_Ft_addSpare 1 = .ok (.getfield 13, 3) := by decide +kernel
theorem d_Ft_addSpare_4 : decode b_Ft_addSpare 4 = .ok (.aload_n 0, 1) := by decide +kernel
theorem d_Ft_addSpare_5 : decode b_Ft_addSpare 5 = .ok (.getfield 18, 3) := by decide +kernel
theorem d_Ft_addSpare_8 : decode b_Ft_addSpare 8 = .ok (.aaload, 1) := by decide +kernel
theorem d_Ft_addSpare_9 : decode b_Ft_addSpare 9 = .ok (.astore_n 1, 1) := by decide +kernel
theorem d_Ft_addSpare_10 : decode b_Ft_addSpare 10 = .ok (.aload_n 0, 1) := by decide +kernel
theorem d_Ft_addSpare_11 : decode b_Ft_addSpare 11 = .ok (.dup, 1) := by decide +kernel
theorem d_Ft_addSpare_12 : decode b_Ft_addSpare 12 = .ok (.getfield 18, 3) := by decide +kernel
theorem d_Ft_addSpare_15 : decode b_Ft_addSpare 15 = .ok (.iconst 1, 1) := by decide +kernel
theorem d_Ft_addSpare_16 : decode b_Ft_addSpare 16 = .ok (.iadd, 1) := by decide +kernel
theorem d_Ft_addSpare_17 : decode b_Ft_addSpare 17 = .ok (.putfield 18, 3) := by decide +kernel
theorem d_Ft_addSpare_20 : decode b_Ft_addSpare 20 = .ok (.aload_n 1, 1) := by decide +kernel
theorem d_Ft_addSpare_21 : decode b_Ft_addSpare 21 = .ok (.areturn, 1) := by decide +kernel
theorem d_Ft_endTimedOut_0 : decode b_Ft_endTimedOut 0 = .ok (.aload_n 0, 1) := by decide +kernel
theorem d_Ft_endTimedOut_1 : decode b_Ft_endTimedOut 1 = .ok (.getfield 18, 3) := by decide +kernel
theorem d_Ft_endTimedOut_4 : decode b_Ft_endTimedOut 4 = .ok (.iconst 1, 1) := by decide +kernel
theorem d_Ft_endTimedOut_5 : decode b_Ft_endTimedOut 5 = .ok (.isub, 1) := by decide +kernel
theorem d_Ft_endTimedOut_6 : decode b_Ft_endTimedOut 6 = .ok (.istore_n 2, 1) := by decide +kernel
theorem d_Ft_endTimedOut_7 : decode b_Ft_endTimedOut 7 = .ok (.iload_n 2, 1) := by decide +kernel
theorem d_Ft_endTimedOut_8 : decode b_Ft_endTimedOut 8 = .ok (.ifCond .lt 27, 3) := by decide +kernel
theorem d_Ft_endTimedOut_11 : decode b_Ft_endTimedOut 11 = .ok (.aload_n 0, 1) := by decide +kernel
theorem d_Ft_endTimedOut_12 : decode b_Ft_endTimedOut 12 = .ok (.getfield 13, 3) := by decide +kernel
theorem d_Ft_endTimedOut_15 : decode b_Ft_endTimedOut 15 = .ok (.iload_n 2, 1) := by decide +kernel
theorem d_Ft_endTimedOut_16 : decode b_Ft_endTimedOut 16 = .ok (.aaload, 1) := by decide +kernel
theorem d_Ft_endTimedOut_17 : decode b_Ft_endTimedOut 17 = .ok (.iload_n 1, 1) := by decide +kernel
theorem d_Ft_endTimedOut_18 : decode b_Ft_endTimedOut 18 = .ok (.invokevirtual 42, 3) := by decide +kernel
theorem d_Ft_endTimedOut_21 : decode b_Ft_endTimedOut 21 = .ok (.ifCond .eq 8, 3) := by decide +kernel
theorem d_Ft_endTimedOut_24 : decode b_Ft_endTimedOut 24 = .ok (.aload_n 0, 1) := by decide +kernel
theorem d_Ft_endTimedOut_25 : decode b_Ft_endTimedOut 25 = .ok (.iload_n 2, 1) := by decide +kernel
theorem d_Ft_endTimedOut_26 : decode b_Ft_endTimedOut 26 = .ok (.invokevirtual 38, 3) := by decide +kernel
theorem d_Ft_endTimedOut_29 : decode b_Ft_endTimedOut 29 = .ok (.iinc 2 (-1), 3) := by decide +kernel
theorem d_Ft_endTimedOut_32 : decode b_Ft_endTimedOut 32 = .ok (.goto (-25), 3) := by decide +kernel
theorem d_Ft_endTimedOut_35 : decode b_Ft_endTimedOut 35 = .ok (.return_, 1) := by decide +kernel
theorem d_Ft_has_0 : decode b_Ft_has 0 = .ok (.iload_n 1, 1) := by decide +kernel
theorem d_Ft_has_1 : decode b_Ft_has 1 = .ok (.ifCond .lt 15, 3) := by decide +kernel
theorem d_Ft_has_4 : decode b_Ft_has 4 = .ok (.iload_n 1, 1) := by decide +kernel
theorem d_Ft_has_5 : decode b_Ft_has 5 = .ok (.aload_n 0, 1) := by decide +kernel
theorem d_Ft_has_6 : decode b_Ft_has 6 = .ok (.getfield 18, 3) := by decide +kernel
theorem d_Ft_has_9 : decode b_Ft_has 9 = .ok (.if_icmp .ge 7, 3) := by decide +kernel
theorem d_Ft_has_12 : decode b_Ft_has 12 = .ok (.iconst 1, 1) := by decide +kernel
theorem d_Ft_has_13 : decode b_Ft_has 13 = .ok (.goto 4, 3) := by decide +kernel
theorem d_Ft_has_16 : decode b_Ft_has 16 = .ok (.iconst 0, 1) := by decide +kernel
theorem d_Ft_has_17 : decode b_Ft_has 17 = .ok (.ireturn, 1) := by decide +kernel
theorem d_Ft_mappingsMade_0 : decode b_Ft_mappingsMade 0 = .ok (.iconst 0, 1) := by decide +kernel
theorem d_Ft_mappingsMade_1 : decode b_Ft_mappingsMade 1 = .ok (.istore_n 1, 1) := by decide +kernel
theorem d_Ft_mappingsMade_2 : decode b_Ft_mappingsMade 2 = .ok (.iconst 0, 1) := by decide +kernel
theorem d_Ft_mappingsMade_3 : decode b_Ft_mappingsMade 3 = .ok (.istore_n 2, 1) := by decide +kernel
theorem d_Ft_mappingsMade_4 : decode b_Ft_mappingsMade 4 = .ok (.iload_n 2, 1) := by decide +kernel
theorem d_Ft_mappingsMade_5 : decode b_Ft_mappingsMade 5 = .ok (.aload_n 0, 1) := by decide +kernel
theorem d_Ft_mappingsMade_6 : decode b_Ft_mappingsMade 6 = .ok (.getfield 18, 3) := by decide +kernel
theorem d_Ft_mappingsMade_9 : decode b_Ft_mappingsMade 9 = .ok (.if_icmp .ge 44, 3) := by decide +kernel
theorem d_Ft_mappingsMade_12 : decode b_Ft_mappingsMade 12 = .ok (.aload_n 0, 1) := by decide +kernel
theorem d_Ft_mappingsMade_13 : decode b_Ft_mappingsMade 13 = .ok (.getfield 13, 3) := by decide +kernel
theorem d_Ft_mappingsMade_16 : decode b_Ft_mappingsMade 16 = .ok (.iload_n 2, 1) := by decide +kernel
theorem d_Ft_mappingsMade_17 : decode b_Ft_mappingsMade 17 = .ok (.aaload, 1) := by decide +kernel
theorem d_Ft_mappingsMade_18 : decode b_Ft_mappingsMade 18 = .ok (.astore_n 3, 1) := by decide +kernel
theorem d_Ft_mappingsMade_19 : decode b_Ft_mappingsMade 19 = .ok (.aload_n 3, 1) := by decide +kernel
theorem d_Ft_mappingsMade_20 : decode b_Ft_mappingsMade 20 = .ok (.getfield 46, 3) := by decide +kernel
theorem d_Ft_mappingsMade_23 : decode b_Ft_mappingsMade 23 = .ok (.bipush 100, 2) := by decide +kernel
theorem d_Ft_mappingsMade_25 : decode b_Ft_mappingsMade 25 = .ok (.if_icmp .lt 22, 3) := by decide +kernel
theorem d_Ft_mappingsMade_28 : decode b_Ft_mappingsMade 28 = .ok (.aload_n 0, 1) := by decide +kernel
theorem d_Ft_mappingsMade_29 : decode b_Ft_mappingsMade 29 = .ok (.aload_n 3, 1) := by decide +kernel
theorem d_Ft_mappingsMade_30 : decode b_Ft_mappingsMade 30 = .ok (.getfield 22, 3) := by decide +kernel
theorem d_Ft_mappingsMade_33 : decode b_Ft_mappingsMade 33 = .ok (.aload_n 3, 1) := by decide +kernel
theorem d_Ft_mappingsMade_34 : decode b_Ft_mappingsMade 34 = .ok (.getfield 46, 3) := by decide +kernel
theorem d_Ft_mappingsMade_37 : decode b_Ft_mappingsMade 37 = .ok (.invokevirtual 49, 3) := by decide +kernel
theorem d_Ft_mappingsMade_40 : decode b_Ft_mappingsMade 40 = .ok (.iload_n 2, 1) := by decide +kernel
theorem d_Ft_mappingsMade_41 : decode b_Ft_mappingsMade 41 = .ok (.if_icmp .ne 6, 3) := by decide +kernel
theorem d_Ft_mappingsMade_44 : decode b_Ft_mappingsMade 44 = .ok (.iinc 1 1, 3) := by decide +kernel
theorem d_Ft_mappingsMade_47 : decode b_Ft_mappingsMade 47 = .ok (.iinc 2 1, 3) := by decide +kernel
theorem d_Ft_mappingsMade_50 : decode b_Ft_mappingsMade 50 = .ok (.goto (-46), 3) := by decide +kernel
theorem d_Ft_mappingsMade_53 : decode b_Ft_mappingsMade 53 = .ok (.iload_n 1, 1) := by decide +kernel
theorem d_Ft_mappingsMade_54 : decode b_Ft_mappingsMade 54 = .ok (.ireturn, 1) := by decide +kernel
