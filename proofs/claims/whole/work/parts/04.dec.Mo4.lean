theorem d_Mo_count_137 : decode b_Mo_count 137 = .ok (.if_icmp .ne 10, 3) := by decide +kernel
theorem d_Mo_count_140 : decode b_Mo_count 140 = .ok (.aload_n 0, 1) := by decide +kernel
theorem d_Mo_count_141 : decode b_Mo_count 141 = .ok (.getfield 98, 3) := by decide +kernel
theorem d_Mo_count_144 : decode b_Mo_count 144 = .ok (.goto 7, 3) := by decide +kernel
theorem d_Mo_count_147 : decode b_Mo_count 147 = .ok (.aload_n 0, 1) := by decide +kernel
theorem d_Mo_count_148 : decode b_Mo_count 148 = .ok (.getfield 13, 3) := by decide +kernel
theorem d_Mo_count_151 : decode b_Mo_count 151 = .ok (.ireturn, 1) := by decide +kernel
theorem d_Mo_otherMappings_0 : decode b_Mo_otherMappings 0 = .ok (.iconst 0, 1) := by decide +kernel
theorem d_Mo_otherMappings_1 : decode b_Mo_otherMappings 1 = .ok (.istore_n 1, 1) := by decide +kernel
theorem d_Mo_otherMappings_2 : decode b_Mo_otherMappings 2 = .ok (.iconst 0, 1) := by decide +kernel
theorem d_Mo_otherMappings_3 : decode b_Mo_otherMappings 3 = .ok (.istore_n 2, 1) := by decide +kernel
theorem d_Mo_otherMappings_4 : decode b_Mo_otherMappings 4 = .ok (.iload_n 2, 1) := by decide +kernel
theorem d_Mo_otherMappings_5 : decode b_Mo_otherMappings 5 = .ok (.iconst 3, 1) := by decide +kernel
theorem d_Mo_otherMappings_6 : decode b_Mo_otherMappings 6 = .ok (.if_icmp .ge 36, 3) := by decide +kernel
theorem d_Mo_otherMappings_9 : decode b_Mo_otherMappings 9 = .ok (.bipush 100, 2) := by decide +kernel
theorem d_Mo_otherMappings_11 : decode b_Mo_otherMappings 11 = .ok (.istore_n 3, 1) := by decide +kernel
theorem d_Mo_otherMappings_12 : decode b_Mo_otherMappings 12 = .ok (.iload_n 3, 1) := by decide +kernel
theorem d_Mo_otherMappings_13 : decode b_Mo_otherMappings 13 = .ok (.bipush 112, 2) := by decide +kernel
theorem d_Mo_otherMappings_15 : decode b_Mo_otherMappings 15 = .ok (.if_icmp .ge 21, 3) := by decide +kernel
theorem d_Mo_otherMappings_18 : decode b_Mo_otherMappings 18 = .ok (.aload_n 0, 1) := by decide +kernel
theorem d_Mo_otherMappings_19 : decode b_Mo_otherMappings 19 = .ok (.iload_n 2, 1) := by decide +kernel
theorem d_Mo_otherMappings_20 : decode b_Mo_otherMappings 20 = .ok (.iload_n 3, 1) := by decide +kernel
theorem d_Mo_otherMappings_21 : decode b_Mo_otherMappings 21 = .ok (.invokevirtual 160, 3) := by decide +kernel
theorem d_Mo_otherMappings_24 : decode b_Mo_otherMappings 24 = .ok (.ifCond .eq 6, 3) := by decide +kernel
theorem d_Mo_otherMappings_27 : decode b_Mo_otherMappings 27 = .ok (.iinc 1 1, 3) := by decide +kernel
theorem d_Mo_otherMappings_30 : decode b_Mo_otherMappings 30 = .ok (.iinc 3 1, 3) := by decide +kernel
theorem d_Mo_otherMappings_33 : decode b_Mo_otherMappings 33 = .ok (.goto (-21), 3) := by decide +kernel
theorem d_Mo_otherMappings_36 : decode b_Mo_otherMappings 36 = .ok (.iinc 2 1, 3) := by decide +kernel
theorem d_Mo_otherMappings_39 : decode b_Mo_otherMappings 39 = .ok (.goto (-35), 3) := by decide +kernel
theorem d_Mo_otherMappings_42 : decode b_Mo_otherMappings 42 = .ok (.iload_n 1, 1) := by decide +kernel
theorem d_Mo_otherMappings_43 : decode b_Mo_otherMappings 43 = .ok (.ireturn, 1) := by decide +kernel
