theorem d_Rb_init_0 : decode b_Rb_init 0 = .ok (.aload_n 0, 1) := by decide +kernel
theorem d_Rb_init_1 : decode b_Rb_init 1 = .ok (.invokespecial 3, 3) := by decide +kernel
theorem d_Rb_init_4 : decode b_Rb_init 4 = .ok (.aload_n 0, 1) := by decide +kernel
theorem d_Rb_init_5 : decode b_Rb_init 5 = .ok (.bipush 17, 2) := by decide +kernel
theorem d_Rb_init_7 : decode b_Rb_init 7 = .ok (.anewarray 11, 3) := by decide +kernel
theorem d_Rb_init_10 : decode b_Rb_init 10 = .ok (.putfield 13, 3) := by decide +kernel
theorem d_Rb_init_13 : decode b_Rb_init 13 = .ok (.iconst 0, 1) := by decide +kernel
theorem d_Rb_init_14 : decode b_Rb_init 14 = .ok (.istore_n 1, 1) := by decide +kernel
theorem d_Rb_init_15 : decode b_Rb_init 15 = .ok (.iload_n 1, 1) := by decide +kernel
theorem d_Rb_init_16 : decode b_Rb_init 16 = .ok (.aload_n 0, 1) := by decide +kernel
theorem d_Rb_init_17 : decode b_Rb_init 17 = .ok (.getfield 13, 3) := by decide +kernel
theorem d_Rb_init_20 : decode b_Rb_init 20 = .ok (.arraylength, 1) := by decide +kernel
theorem d_Rb_init_21 : decode b_Rb_init 21 = .ok (.if_icmp .ge 22, 3) := by decide +kernel
theorem d_Rb_init_24 : decode b_Rb_init 24 = .ok (.aload_n 0, 1) := by decide +kernel
theorem d_Rb_init_25 : decode b_Rb_init 25 = .ok (.getfield 13, 3) := by decide +kernel
theorem d_Rb_init_28 : decode b_Rb_init 28 = .ok (.iload_n 1, 1) := by decide +kernel
theorem d_Rb_init_29 : decode b_Rb_init 29 = .ok (.new 11, 3) := by decide +kernel
theorem d_Rb_init_32 : decode b_Rb_init 32 = .ok (.dup, 1) := by decide +kernel
theorem d_Rb_init_33 : decode b_Rb_init 33 = .ok (.invokespecial 17, 3) := by decide +kernel
theorem d_Rb_init_36 : decode b_Rb_init 36 = .ok (.aastore, 1) := by decide +kernel
theorem d_Rb_init_37 : decode b_Rb_init 37 = .ok (.iinc 1 1, 3) := by decide +kernel
theorem d_Rb_init_40 : decode b_Rb_init 40 = .ok (.goto (-25), 3) := by decide +kernel
theorem d_Rb_init_43 : decode b_Rb_init 43 = .ok (.aload_n 0, 1) := by decide +kernel
theorem d_Rb_init_44 : decode b_Rb_init 44 = .ok (.iconst 0, 1) := by decide +kernel
theorem d_Rb_init_45 : decode b_Rb_init 45 = .ok (.putfield 18, 3) := by decide +kernel
theorem d_Rb_init_48 : decode b_Rb_init 48 = .ok (.return_, 1) := by decide +kernel
theorem d_Rb_isFull_0 : decode b_Rb_isFull 0 = .ok (.aload_n 0, 1) := by decide +kernel
theorem d_Rb_isFull_1 : decode b_Rb_isFull 1 = .ok (.getfield 18, 3) := by decide +kernel
theorem d_Rb_isFull_4 : decode b_Rb_isFull 4 = .ok (.bipush 16, 2) := by decide +kernel
theorem d_Rb_isFull_6 : decode b_Rb_isFull 6 = .ok (.if_icmp .lt 7, 3) := by decide +kernel
theorem d_Rb_isFull_9 : decode b_Rb_isFull 9 = .ok (.iconst 1, 1) := by decide +kernel
theorem d_Rb_isFull_10 : decode b_Rb_isFull 10 = .ok (.goto 4, 3) := by decide +kernel
theorem d_Rb_isFull_13 : decode b_Rb_isFull 13 = .ok (.iconst 0, 1) := by decide +kernel
theorem d_Rb_isFull_14 : decode b_Rb_isFull 14 = .ok (.ireturn, 1) := by decide +kernel
theorem d_Rb_spare_0 : decode b_Rb_spare 0 = .ok (.aload_n 0, 1) := by decide +kernel
theorem d_Rb_spare_1 : decode b_Rb_spare 1 = .ok (.getfield 13, 3) := by decide +kernel
theorem d_Rb_spare_4 : decode b_Rb_spare 4 = .ok (.aload_n 0, 1) := by decide +kernel
theorem d_Rb_spare_5 : decode b_Rb_spare 5 = .ok (.getfield 18, 3) := by decide +kernel
theorem d_Rb_spare_8 : decode b_Rb_spare 8 = .ok (.aaload, 1) := by decide +kernel
theorem d_Rb_spare_9 : decode b_Rb_spare 9 = .ok (.areturn, 1) := by decide +kernel
theorem d_Rb_addSpare_0 : decode b_Rb_addSpare 0 = .ok (.aload_n 0, 1) := by decide +kernel
theorem d_Rb_addSpare_1 : decode b_Rb_addSpare 1 = .ok (.dup, 1) := by decide +kernel
theorem d_Rb_addSpare_2 : decode b_Rb_addSpare 2 = .ok (.getfield 18, 3) := by decide +kernel
theorem d_Rb_addSpare_5 : decode b_Rb_addSpare 5 = .ok (.iconst 1, 1) := by decide +kernel
theorem d_Rb_addSpare_6 : decode b_Rb_addSpare 6 = .ok (.iadd, 1) := by decide +kernel
theorem d_Rb_addSpare_7 : decode b_Rb_addSpare 7 = .ok (.putfield 18, 3) := by decide +kernel
theorem d_Rb_addSpare_10 : decode b_Rb_addSpare 10 = .ok (.aload_n 0, 1) := by decide +kernel
theorem d_Rb_addSpare_11 : decode b_Rb_addSpare 11 = .ok (.getfield 18, 3) := by decide +kernel
theorem d_Rb_addSpare_14 : decode b_Rb_addSpare 14 = .ok (.ireturn, 1) := by decide +kernel
theorem d_Rb_has_0 : decode b_Rb_has 0 = .ok (.iload_n 1, 1) := by decide +kernel
theorem d_Rb_has_1 : decode b_Rb_has 1 = .ok (.iconst 1, 1) := by decide +kernel
theorem d_Rb_has_2 : decode b_Rb_has 2 = .ok (.if_icmp .lt 15, 3) := by decide +kernel
theorem d_Rb_has_5 : decode b_Rb_has 5 = .ok (.iload_n 1, 1) := by decide +kernel
theorem d_Rb_has_6 : decode b_Rb_has 6 = .ok (.aload_n 0, 1) := by decide +kernel
theorem d_Rb_has_7 : decode b_Rb_has 7 = .ok (.getfield 18, 3) := by decide +kernel
theorem d_Rb_has_10 : decode b_Rb_has 10 = .ok (.if_icmp .gt 7, 3) := by decide +kernel
theorem d_Rb_has_13 : decode b_Rb_has 13 = .ok (.iconst 1, 1) := by decide +kernel
theorem d_Rb_has_14 : decode b_Rb_has 14 = .ok (.goto 4, 3) := by decide +kernel
theorem d_Rb_has_17 : decode b_Rb_has 17 = .ok (.iconst 0, 1) := by decide +kernel
theorem d_Rb_has_18 : decode b_Rb_has 18 = .ok (.ireturn, 1) := by decide +kernel
theorem d_Rb_remove_0 : decode b_Rb_remove 0 = .ok (.aload_n 0, 1) := by decide +kernel
theorem d_Rb_remove_1 : decode b_Rb_remove 1 = .ok (.getfield 13, 3) := by decide +kernel
theorem d_Rb_remove_4 : decode b_Rb_remove 4 = .ok (.iload_n 1, 1) := by decide +kernel
theorem d_Rb_remove_5 : decode b_Rb_remove 5 = .ok (.iconst 1, 1) := by decide +kernel
theorem d_Rb_remove_6 : decode b_Rb_remove 6 = .ok (.isub, 1) := by decide +kernel
theorem d_Rb_remove_7 : decode b_Rb_remove 7 = .ok (.aaload, 1) := by decide +kernel
theorem d_Rb_remove_8 : decode b_Rb_remove 8 = .ok (.astore_n 2, 1) := by decide +kernel
theorem d_Rb_remove_9 : decode b_Rb_remove 9 = .ok (.iload_n 1, 1) := by decide +kernel
theorem d_Rb_remove_10 : decode b_Rb_remove 10 = .ok (.istore_n 3, 1) := by decide +kernel
theorem d_Rb_remove_11 : decode b_Rb_remove 11 = .ok (.iload_n 3, 1) := by decide +kernel
theorem d_Rb_remove_12 : decode b_Rb_remove 12 = .ok (.aload_n 0, 1) := by decide +kernel
theorem d_Rb_remove_13 : decode b_Rb_remove 13 = .ok (.getfield 18, 3) := by decide +kernel
theorem d_Rb_remove_16 : decode b_Rb_remove 16 = .ok (.if_icmp .ge 23, 3) := by decide +kernel
theorem d_Rb_remove_19 : decode b_Rb_remove 19 = .ok (.aload_n 0, 1) := by decide +kernel
theorem d_Rb_remove_20 : decode b_Rb_remove 20 = .ok (.getfield 13, 3) := by decide +kernel
theorem d_Rb_remove_23 : decode b_Rb_remove 23 = .ok (.iload_n 3, 1) := by decide +kernel
theorem d_Rb_remove_24 : decode b_Rb_remove 24 = .ok (.iconst 1, 1) := by decide +kernel
theorem d_Rb_remove_25 : decode b_Rb_remove 25 = .ok (.isub, 1) := by decide +kernel
theorem d_Rb_remove_26 : decode b_Rb_remove 26 = .ok (.aload_n 0, 1) := by decide +kernel
theorem d_Rb_remove_27 : decode b_Rb_remove 27 = .ok (.getfield 13, 3) := by decide +kernel
theorem d_Rb_remove_30 : decode b_Rb_remove 30 = .ok (.iload_n 3, 1) := by decide +kernel
theorem d_Rb_remove_31 : decode b_Rb_remove 31 = .ok (.aaload, 1) := by decide +kernel
theorem d_Rb_remove_32 : decode b_Rb_remove 32 = .ok (.aastore, 1) := by decide +kernel
theorem d_Rb_remove_33 : decode b_Rb_remove 33 = .ok (.iinc 3 1, 3) := by decide +kernel
theorem d_Rb_remove_36 : decode b_Rb_remove 36 = .ok (.goto (-25), 3) := by decide +kernel
theorem d_Rb_remove_39 : decode b_Rb_remove 39 = .ok (.aload_n 0, 1) := by decide +kernel
theorem d_Rb_remove_40 : decode b_Rb_remove 40 = .ok (.getfield 13, 3) := by decide +kernel
theorem d_Rb_remove_43 : decode b_Rb_remove 43 = .ok (.aload_n 0, 1) := by decide +kernel
theorem d_Rb_remove_44 : decode b_Rb_remove 44 = .ok (.getfield 18, 3) := by decide +kernel
theorem d_Rb_remove_47 : decode b_Rb_remove 47 = .ok (.iconst 1, 1) := by decide +kernel
theorem d_Rb_remove_48 : decode b_Rb_remove 48 = .ok (.isub, 1) := by decide +kernel
theorem d_Rb_remove_49 : decode b_Rb_remove 49 = .ok (.aload_n 2, 1) := by decide +kernel
theorem d_Rb_remove_50 : decode b_Rb_remove 50 = .ok (.aastore, 1) := by decide +kernel
theorem d_Rb_remove_51 : decode b_Rb_remove 51 = .ok (.aload_n 0, 1) := by decide +kernel
theorem d_Rb_remove_52 : decode b_Rb_remove 52 = .ok (.dup, 1) := by decide +kernel
theorem d_Rb_remove_53 : decode b_Rb_remove 53 = .ok (.getfield 18, 3) := by decide +kernel
theorem d_Rb_remove_56 : decode b_Rb_remove 56 = .ok (.iconst 1, 1) := by decide +kernel
theorem d_Rb_remove_57 : decode b_Rb_remove 57 = .ok (.isub, 1) := by decide +kernel
theorem d_Rb_remove_58 : decode b_Rb_remove 58 = .ok (.putfield 18, 3) := by decide +kernel
theorem d_Rb_remove_61 : decode b_Rb_remove 61 = .ok (.return_, 1) := by decide +kernel
theorem d_Rb_get_0 : decode b_Rb_get 0 = .ok (.aload_n 0, 1) := by decide +kernel
theorem d_Rb_get_1 : decode b_Rb_get 1 = .ok (.getfield 13, 3) := by decide +kernel
theorem d_Rb_get_4 : decode b_Rb_get 4 = .ok (.iload_n 1, 1) := by decide +kernel
theorem d_Rb_get_5 : decode b_Rb_get 5 = .ok (.iconst 1, 1) := by decide +kernel
theorem d_Rb_get_6 : decode b_Rb_get 6 = .ok (.isub, 1) := by decide +kernel
theorem d_Rb_get_7 : decode b_Rb_get 7 = .ok (.aaload, 1) := by decide +kernel
theorem d_Rb_get_8 : decode b_Rb_get 8 = .ok (.areturn, 1) := by decide +kernel
theorem d_Rb_policy_0 : decode b_Rb_policy 0 = .ok (.iconst 0, 1) := by decide +kernel
theorem d_Rb_policy_1 : decode b_Rb_policy 1 = .ok (.istore 5, 2) := by decide +kernel
theorem d_Rb_policy_3 : decode b_Rb_policy 3 = .ok (.iload 5, 2) := by decide +kernel
theorem d_Rb_policy_5 : decode b_Rb_policy 5 = .ok (.aload_n 0, 1) := by decide +kernel
theorem d_Rb_policy_6 : decode b_Rb_policy 6 = .ok (.getfield 18, 3) := by decide +kernel
theorem d_Rb_policy_9 : decode b_Rb_policy 9 = .ok (.if_icmp .ge 38, 3) := by decide +kernel
theorem d_Rb_policy_12 : decode b_Rb_policy 12 = .ok (.aload_n 0, 1) := by decide +kernel
theorem d_Rb_policy_13 : decode b_Rb_policy 13 = .ok (.getfield 13, 3) := by decide +kernel
theorem d_Rb_policy_16 : decode b_Rb_policy 16 = .ok (.iload 5, 2) := by decide +kernel
theorem d_Rb_policy_18 : decode b_Rb_policy 18 = .ok (.aaload, 1) := by decide +kernel
theorem d_Rb_policy_19 : decode b_Rb_policy 19 = .ok (.iload_n 1, 1) := by decide +kernel
theorem d_Rb_policy_20 : decode b_Rb_policy 20 = .ok (.iload_n 2, 1) := by decide +kernel
theorem d_Rb_policy_21 : decode b_Rb_policy 21 = .ok (.iload_n 3, 1) := by decide +kernel
theorem d_Rb_policy_22 : decode b_Rb_policy 22 = .ok (.iload 4, 2) := by decide +kernel
theorem d_Rb_policy_24 : decode b_Rb_policy 24 = .ok (.invokevirtual 22, 3) := by decide +kernel
theorem d_Rb_policy_27 : decode b_Rb_policy 27 = .ok (.ifCond .eq 14, 3) := by decide +kernel
theorem d_Rb_policy_30 : decode b_Rb_policy 30 = .ok (.aload_n 0, 1) := by decide +kernel
theorem d_Rb_policy_31 : decode b_Rb_policy 31 = .ok (.getfield 13, 3) := by decide +kernel
theorem d_Rb_policy_34 : decode b_Rb_policy 34 = .ok (.iload 5, 2) := by decide +kernel
theorem d_Rb_policy_36 : decode b_Rb_policy 36 = .ok (.aaload, 1) := by decide +kernel
theorem d_Rb_policy_37 : decode b_Rb_policy 37 = .ok (.getfield 26, 3) := by decide +kernel
theorem d_Rb_policy_40 : decode b_Rb_policy 40 = .ok (.ireturn, 1) := by decide +kernel
theorem d_Rb_policy_41 : decode b_Rb_policy 41 = .ok (.iinc 5 1, 3) := by decide +kernel
theorem d_Rb_policy_44 : decode b_Rb_policy 44 = .ok (.goto (-41), 3) := by decide +kernel
theorem d_Rb_policy_47 : decode b_Rb_policy 47 = .ok (.iconst 1, 1) := by decide +kernel
theorem d_Rb_policy_48 : decode b_Rb_policy 48 = .ok (.ireturn, 1) := by decide +kernel
