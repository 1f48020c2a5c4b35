theorem dX4_init_0 : decode cX4_init 0 = .ok (.aload_n 0, 1) := by decide +kernel
theorem dX4_init_1 : decode cX4_init 1 = .ok (.iload_n 1, 1) := by decide +kernel
theorem dX4_init_2 : decode cX4_init 2 = .ok (.iload_n 2, 1) := by decide +kernel
theorem dX4_init_3 : decode cX4_init 3 = .ok (.aload_n 3, 1) := by decide +kernel
theorem dX4_init_4 : decode cX4_init 4 = .ok (.invokespecial 1, 3) := by decide +kernel
theorem dX4_init_7 : decode cX4_init 7 = .ok (.return_, 1) := by decide +kernel
theorem dX4_telling_0 : decode cX4_telling 0 = .ok (.aload_n 1, 1) := by decide +kernel
theorem dX4_telling_1 : decode cX4_telling 1 = .ok (.iconst 3, 1) := by decide +kernel
theorem dX4_telling_2 : decode cX4_telling 2 = .ok (.invokevirtual 7, 3) := by decide +kernel
theorem dX4_telling_5 : decode cX4_telling 5 = .ok (.aload_n 0, 1) := by decide +kernel
theorem dX4_telling_6 : decode cX4_telling 6 = .ok (.aload_n 1, 1) := by decide +kernel
theorem dX4_telling_7 : decode cX4_telling 7 = .ok (.invokespecial 13, 3) := by decide +kernel
theorem dX4_telling_10 : decode cX4_telling 10 = .ok (.istore_n 2, 1) := by decide +kernel
theorem dX4_telling_11 : decode cX4_telling 11 = .ok (.iload_n 2, 1) := by decide +kernel
theorem dX4_telling_12 : decode cX4_telling 12 = .ok (.aload_n 0, 1) := by decide +kernel
theorem dX4_telling_13 : decode cX4_telling 13 = .ok (.aload_n 1, 1) := by decide +kernel
theorem dX4_telling_14 : decode cX4_telling 14 = .ok (.invokevirtual 17, 3) := by decide +kernel
theorem dX4_telling_17 : decode cX4_telling 17 = .ok (.iadd, 1) := by decide +kernel
theorem dX4_telling_18 : decode cX4_telling 18 = .ok (.ireturn, 1) := by decide +kernel
theorem dX4_weight_0 : decode cX4_weight 0 = .ok (.aload_n 1, 1) := by decide +kernel
theorem dX4_weight_1 : decode cX4_weight 1 = .ok (.iconst 5, 1) := by decide +kernel
theorem dX4_weight_2 : decode cX4_weight 2 = .ok (.invokevirtual 7, 3) := by decide +kernel
theorem dX4_weight_5 : decode cX4_weight 5 = .ok (.bipush 60, 2) := by decide +kernel
theorem dX4_weight_7 : decode cX4_weight 7 = .ok (.ireturn, 1) := by decide +kernel
theorem dX4_isOfKind_0 : decode cX4_isOfKind 0 = .ok (.iload_n 1, 1) := by decide +kernel
theorem dX4_isOfKind_1 : decode cX4_isOfKind 1 = .ok (.iconst 2, 1) := by decide +kernel
theorem dX4_isOfKind_2 : decode cX4_isOfKind 2 = .ok (.if_icmp .eq 11, 3) := by decide +kernel
theorem dX4_isOfKind_5 : decode cX4_isOfKind 5 = .ok (.aload_n 0, 1) := by decide +kernel
theorem dX4_isOfKind_6 : decode cX4_isOfKind 6 = .ok (.iload_n 1, 1) := by decide +kernel
theorem dX4_isOfKind_7 : decode cX4_isOfKind 7 = .ok (.invokespecial 22, 3) := by decide +kernel
theorem dX4_isOfKind_10 : decode cX4_isOfKind 10 = .ok (.ifCond .eq 7, 3) := by decide +kernel
theorem dX4_isOfKind_13 : decode cX4_isOfKind 13 = .ok (.iconst 1, 1) := by decide +kernel
theorem dX4_isOfKind_14 : decode cX4_isOfKind 14 = .ok (.goto 4, 3) := by decide +kernel
theorem dX4_isOfKind_17 : decode cX4_isOfKind 17 = .ok (.iconst 0, 1) := by decide +kernel
theorem dX4_isOfKind_18 : decode cX4_isOfKind 18 = .ok (.ireturn, 1) := by decide +kernel
