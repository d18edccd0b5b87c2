theorem d_Li_init_0 : decode b_Li_init 0 = .ok (.aload_n 0, 1) := by decide +kernel
theorem d_Li_init_1 : decode b_Li_init 1 = .ok (.invokespecial 3, 3) := by decide +kernel
theorem d_Li_init_4 : decode b_Li_init 4 = .ok (.aload_n 0, 1) := by decide +kernel
theorem d_Li_init_5 : decode b_Li_init 5 = .ok (.bipush 40, 2) := by decide +kernel
theorem d_Li_init_7 : decode b_Li_init 7 = .ok (.newarray .char, 2) := by decide +kernel
theorem d_Li_init_9 : decode b_Li_init 9 = .ok (.putfield 11, 3) := by decide +kernel
theorem d_Li_init_12 : decode b_Li_init 12 = .ok (.aload_n 0, 1) := by decide +kernel
theorem d_Li_init_13 : decode b_Li_init 13 = .ok (.iconst 0, 1) := by decide +kernel
theorem d_Li_init_14 : decode b_Li_init 14 = .ok (.putfield 15, 3) := by decide +kernel
theorem d_Li_init_17 : decode b_Li_init 17 = .ok (.return_, 1) := by decide +kernel
theorem d_Li_isAllowed_0 : decode b_Li_isAllowed 0 = .ok (.iload_n 0, 1) := by decide +kernel
theorem d_Li_isAllowed_1 : decode b_Li_isAllowed 1 = .ok (.sipush 255, 3) := by decide +kernel
theorem d_Li_isAllowed_4 : decode b_Li_isAllowed 4 = .ok (.invokestatic 19, 3) := by decide +kernel
theorem d_Li_isAllowed_7 : decode b_Li_isAllowed 7 = .ok (.ifCond .eq 17, 3) := by decide +kernel
theorem d_Li_isAllowed_10 : decode b_Li_isAllowed 10 = .ok (.ldc 23, 2) := by decide +kernel
theorem d_Li_isAllowed_12 : decode b_Li_isAllowed 12 = .ok (.iload_n 0, 1) := by decide +kernel
theorem d_Li_isAllowed_13 : decode b_Li_isAllowed 13 = .ok (.i2c, 1) := by decide +kernel
theorem d_Li_isAllowed_14 : decode b_Li_isAllowed 14 = .ok (.invokevirtual 25, 3) := by decide +kernel
theorem d_Li_isAllowed_17 : decode b_Li_isAllowed 17 = .ok (.ifCond .lt 7, 3) := by decide +kernel
theorem d_Li_isAllowed_20 : decode b_Li_isAllowed 20 = .ok (.iconst 1, 1) := by decide +kernel
theorem d_Li_isAllowed_21 : decode b_Li_isAllowed 21 = .ok (.goto 4, 3) := by decide +kernel
theorem d_Li_isAllowed_24 : decode b_Li_isAllowed 24 = .ok (.iconst 0, 1) := by decide +kernel
theorem d_Li_isAllowed_25 : decode b_Li_isAllowed 25 = .ok (.ireturn, 1) := by decide +kernel
theorem d_Li_isFull_0 : decode b_Li_isFull 0 = .ok (.aload_n 0, 1) := by decide +kernel
theorem d_Li_isFull_1 : decode b_Li_isFull 1 = .ok (.getfield 15, 3) := by decide +kernel
theorem d_Li_isFull_4 : decode b_Li_isFull 4 = .ok (.bipush 40, 2) := by decide +kernel
theorem d_Li_isFull_6 : decode b_Li_isFull 6 = .ok (.if_icmp .lt 7, 3) := by decide +kernel
theorem d_Li_isFull_9 : decode b_Li_isFull 9 = .ok (.iconst 1, 1) := by decide +kernel
theorem d_Li_isFull_10 : decode b_Li_isFull 10 = .ok (.goto 4, 3) := by decide +kernel
theorem d_Li_isFull_13 : decode b_Li_isFull 13 = .ok (.iconst 0, 1) := by decide +kernel
theorem d_Li_isFull_14 : decode b_Li_isFull 14 = .ok (.ireturn, 1) := by decide +kernel
theorem d_Li_add_0 : decode b_Li_add 0 = .ok (.aload_n 0, 1) := by decide +kernel
theorem d_Li_add_1 : decode b_Li_add 1 = .ok (.invokevirtual 31, 3) := by decide +kernel
theorem d_Li_add_4 : decode b_Li_add 4 = .ok (.ifCond .ne 23, 3) := by decide +kernel
theorem d_Li_add_7 : decode b_Li_add 7 = .ok (.aload_n 0, 1) := by decide +kernel
theorem d_Li_add_8 : decode b_Li_add 8 = .ok (.getfield 11, 3) := by decide +kernel
theorem d_Li_add_11 : decode b_Li_add 11 = .ok (.aload_n 0, 1) := by decide +kernel
theorem d_Li_add_12 : decode b_Li_add 12 = .ok (.getfield 15, 3) := by decide +kernel
theorem d_Li_add_15 : decode b_Li_add 15 = .ok (.iload_n 1, 1) := by decide +kernel
theorem d_Li_add_16 : decode b_Li_add 16 = .ok (.castore, 1) := by decide +kernel
theorem d_Li_add_17 : decode b_Li_add 17 = .ok (.aload_n 0, 1) := by decide +kernel
theorem d_Li_add_18 : decode b_Li_add 18 = .ok (.dup, 1) := by decide +kernel
theorem d_Li_add_19 : decode b_Li_add 19 = .ok (.getfield 15, 3) := by decide +kernel
theorem d_Li_add_22 : decode b_Li_add 22 = .ok (.iconst 1, 1) := by decide +kernel
theorem d_Li_add_23 : decode b_Li_add 23 = .ok (.iadd, 1) := by decide +kernel
theorem d_Li_add_24 : decode b_Li_add 24 = .ok (.putfield 15, 3) := by decide +kernel
theorem d_Li_add_27 : decode b_Li_add 27 = .ok (.return_, 1) := by decide +kernel
theorem d_Li_at_0 : decode b_Li_at 0 = .ok (.iload_n 1, 1) := by decide +kernel
theorem d_Li_at_1 : decode b_Li_at 1 = .ok (.ifCond .lt 20, 3) := by decide +kernel
theorem d_Li_at_4 : decode b_Li_at 4 = .ok (.iload_n 1, 1) := by decide +kernel
theorem d_Li_at_5 : decode b_Li_at 5 = .ok (.aload_n 0, 1) := by decide +kernel
theorem d_Li_at_6 : decode b_Li_at 6 = .ok (.getfield 15, 3) := by decide +kernel
theorem d_Li_at_9 : decode b_Li_at 9 = .ok (.if_icmp .ge 12, 3) := by decide +kernel
theorem d_Li_at_12 : decode b_Li_at 12 = .ok (.aload_n 0, 1) := by decide +kernel
theorem d_Li_at_13 : decode b_Li_at 13 = .ok (.getfield 11, 3) := by decide +kernel
theorem d_Li_at_16 : decode b_Li_at 16 = .ok (.iload_n 1, 1) := by decide +kernel
theorem d_Li_at_17 : decode b_Li_at 17 = .ok (.caload, 1) := by decide +kernel
theorem d_Li_at_18 : decode b_Li_at 18 = .ok (.goto 5, 3) := by decide +kernel
theorem d_Li_at_21 : decode b_Li_at 21 = .ok (.bipush 32, 2) := by decide +kernel
theorem d_Li_at_23 : decode b_Li_at 23 = .ok (.ireturn, 1) := by decide +kernel
theorem d_Li_clear_0 : decode b_Li_clear 0 = .ok (.aload_n 0, 1) := by decide +kernel
theorem d_Li_clear_1 : decode b_Li_clear 1 = .ok (.iconst 0, 1) := by decide +kernel
theorem d_Li_clear_2 : decode b_Li_clear 2 = .ok (.putfield 15, 3) := by decide +kernel
theorem d_Li_clear_5 : decode b_Li_clear 5 = .ok (.return_, 1) := by decide +kernel
theorem d_Li_addNumber_0 : decode b_Li_addNumber 0 = .ok (.iload_n 1, 1) := by decide +kernel
theorem d_Li_addNumber_1 : decode b_Li_addNumber 1 = .ok (.bipush 100, 2) := by decide +kernel
theorem d_Li_addNumber_3 : decode b_Li_addNumber 3 = .ok (.if_icmp .lt 14, 3) := by decide +kernel
theorem d_Li_addNumber_6 : decode b_Li_addNumber 6 = .ok (.aload_n 0, 1) := by decide +kernel
theorem d_Li_addNumber_7 : decode b_Li_addNumber 7 = .ok (.iload_n 1, 1) := by decide +kernel
theorem d_Li_addNumber_8 : decode b_Li_addNumber 8 = .ok (.bipush 100, 2) := by decide +kernel
theorem d_Li_addNumber_10 : decode b_Li_addNumber 10 = .ok (.idiv, 1) := by decide +kernel
theorem d_Li_addNumber_11 : decode b_Li_addNumber 11 = .ok (.invokestatic 35, 3) := by decide +kernel
theorem d_Li_addNumber_14 : decode b_Li_addNumber 14 = .ok (.invokevirtual 39, 3) := by decide +kernel
theorem d_Li_addNumber_17 : decode b_Li_addNumber 17 = .ok (.iload_n 1, 1) := by decide +kernel
theorem d_Li_addNumber_18 : decode b_Li_addNumber 18 = .ok (.bipush 10, 2) := by decide +kernel
theorem d_Li_addNumber_20 : decode b_Li_addNumber 20 = .ok (.if_icmp .lt 17, 3) := by decide +kernel
theorem d_Li_addNumber_23 : decode b_Li_addNumber 23 = .ok (.aload_n 0, 1) := by decide +kernel
theorem d_Li_addNumber_24 : decode b_Li_addNumber 24 = .ok (.iload_n 1, 1) := by decide +kernel
theorem d_Li_addNumber_25 : decode b_Li_addNumber 25 = .ok (.bipush 10, 2) := by decide +kernel
theorem d_Li_addNumber_27 : decode b_Li_addNumber 27 = .ok (.idiv, 1) := by decide +kernel
theorem d_Li_addNumber_28 : decode b_Li_addNumber 28 = .ok (.bipush 10, 2) := by decide +kernel
theorem d_Li_addNumber_30 : decode b_Li_addNumber 30 = .ok (.irem, 1) := by decide +kernel
theorem d_Li_addNumber_31 : decode b_Li_addNumber 31 = .ok (.invokestatic 35, 3) := by decide +kernel
theorem d_Li_addNumber_34 : decode b_Li_addNumber 34 = .ok (.invokevirtual 39, 3) := by decide +kernel
theorem d_Li_addNumber_37 : decode b_Li_addNumber 37 = .ok (.aload_n 0, 1) := by decide +kernel
theorem d_Li_addNumber_38 : decode b_Li_addNumber 38 = .ok (.iload_n 1, 1) := by decide +kernel
theorem d_Li_addNumber_39 : decode b_Li_addNumber 39 = .ok (.bipush 10, 2) := by decide +kernel
theorem d_Li_addNumber_41 : decode b_Li_addNumber 41 = .ok (.irem, 1) := by decide +kernel
theorem d_Li_addNumber_42 : decode b_Li_addNumber 42 = .ok (.invokestatic 35, 3) := by decide +kernel
theorem d_Li_addNumber_45 : decode b_Li_addNumber 45 = .ok (.invokevirtual 39, 3) := by decide +kernel
theorem d_Li_addNumber_48 : decode b_Li_addNumber 48 = .ok (.return_, 1) := by decide +kernel
theorem d_Li_digit_0 : decode b_Li_digit 0 = .ok (.bipush 48, 2) := by decide +kernel
theorem d_Li_digit_2 : decode b_Li_digit 2 = .ok (.iload_n 0, 1) := by decide +kernel
theorem d_Li_digit_3 : decode b_Li_digit 3 = .ok (.iadd, 1) := by decide +kernel
theorem d_Li_digit_4 : decode b_Li_digit 4 = .ok (.i2c, 1) := by decide +kernel
theorem d_Li_digit_5 : decode b_Li_digit 5 = .ok (.ireturn, 1) := by decide +kernel
