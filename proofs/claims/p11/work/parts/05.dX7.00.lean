theorem dX7_init_0 : decode cX7_init 0 = .ok (.aload_n 0, 1) := by decide +kernel
theorem dX7_init_1 : decode cX7_init 1 = .ok (.invokespecial 1, 3) := by decide +kernel
theorem dX7_init_4 : decode cX7_init 4 = .ok (.aload_n 0, 1) := by decide +kernel
theorem dX7_init_5 : decode cX7_init 5 = .ok (.iload_n 1, 1) := by decide +kernel
theorem dX7_init_6 : decode cX7_init 6 = .ok (.putfield 7, 3) := by decide +kernel
theorem dX7_init_9 : decode cX7_init 9 = .ok (.aload_n 0, 1) := by decide +kernel
theorem dX7_init_10 : decode cX7_init 10 = .ok (.iload_n 2, 1) := by decide +kernel
theorem dX7_init_11 : decode cX7_init 11 = .ok (.putfield 13, 3) := by decide +kernel
theorem dX7_init_14 : decode cX7_init 14 = .ok (.aload_n 0, 1) := by decide +kernel
theorem dX7_init_15 : decode cX7_init 15 = .ok (.aload_n 3, 1) := by decide +kernel
theorem dX7_init_16 : decode cX7_init 16 = .ok (.putfield 16, 3) := by decide +kernel
theorem dX7_init_19 : decode cX7_init 19 = .ok (.return_, 1) := by decide +kernel
theorem dX7_telling_0 : decode cX7_telling 0 = .ok (.aload_n 0, 1) := by decide +kernel
theorem dX7_telling_1 : decode cX7_telling 1 = .ok (.aload_n 1, 1) := by decide +kernel
theorem dX7_telling_2 : decode cX7_telling 2 = .ok (.invokevirtual 20, 3) := by decide +kernel
theorem dX7_telling_5 : decode cX7_telling 5 = .ok (.ireturn, 1) := by decide +kernel
theorem dX7_plainTelling_0 : decode cX7_plainTelling 0 = .ok (.aload_n 1, 1) := by decide +kernel
theorem dX7_plainTelling_1 : decode cX7_plainTelling 1 = .ok (.iconst 1, 1) := by decide +kernel
theorem dX7_plainTelling_2 : decode cX7_plainTelling 2 = .ok (.invokevirtual 24, 3) := by decide +kernel
theorem dX7_plainTelling_5 : decode cX7_plainTelling 5 = .ok (.iconst 0, 1) := by decide +kernel
theorem dX7_plainTelling_6 : decode cX7_plainTelling 6 = .ok (.istore_n 2, 1) := by decide +kernel
theorem dX7_plainTelling_7 : decode cX7_plainTelling 7 = .ok (.iconst 0, 1) := by decide +kernel
theorem dX7_plainTelling_8 : decode cX7_plainTelling 8 = .ok (.istore_n 3, 1) := by decide +kernel
theorem dX7_plainTelling_9 : decode cX7_plainTelling 9 = .ok (.iload_n 3, 1) := by decide +kernel
theorem dX7_plainTelling_10 : decode cX7_plainTelling 10 = .ok (.aload_n 0, 1) := by decide +kernel
theorem dX7_plainTelling_11 : decode cX7_plainTelling 11 = .ok (.getfield 13, 3) := by decide +kernel
theorem dX7_plainTelling_14 : decode cX7_plainTelling 14 = .ok (.if_icmp .ge 25, 3) := by decide +kernel
theorem dX7_plainTelling_17 : decode cX7_plainTelling 17 = .ok (.iload_n 2, 1) := by decide +kernel
theorem dX7_plainTelling_18 : decode cX7_plainTelling 18 = .ok (.aload_n 0, 1) := by decide +kernel
theorem dX7_plainTelling_19 : decode cX7_plainTelling 19 = .ok (.getfield 16, 3) := by decide +kernel
theorem dX7_plainTelling_22 : decode cX7_plainTelling 22 = .ok (.iload_n 3, 1) := by decide +kernel
theorem dX7_plainTelling_23 : decode cX7_plainTelling 23 = .ok (.aload_n 0, 1) := by decide +kernel
theorem dX7_plainTelling_24 : decode cX7_plainTelling 24 = .ok (.getfield 13, 3) := by decide +kernel
theorem dX7_plainTelling_27 : decode cX7_plainTelling 27 = .ok (.imul, 1) := by decide +kernel
theorem dX7_plainTelling_28 : decode cX7_plainTelling 28 = .ok (.iload_n 3, 1) := by decide +kernel
theorem dX7_plainTelling_29 : decode cX7_plainTelling 29 = .ok (.iadd, 1) := by decide +kernel
theorem dX7_plainTelling_30 : decode cX7_plainTelling 30 = .ok (.iaload, 1) := by decide +kernel
theorem dX7_plainTelling_31 : decode cX7_plainTelling 31 = .ok (.iadd, 1) := by decide +kernel
theorem dX7_plainTelling_32 : decode cX7_plainTelling 32 = .ok (.istore_n 2, 1) := by decide +kernel
theorem dX7_plainTelling_33 : decode cX7_plainTelling 33 = .ok (.iinc 3 1, 3) := by decide +kernel
theorem dX7_plainTelling_36 : decode cX7_plainTelling 36 = .ok (.goto (-27), 3) := by decide +kernel
theorem dX7_plainTelling_39 : decode cX7_plainTelling 39 = .ok (.iload_n 2, 1) := by decide +kernel
theorem dX7_plainTelling_40 : decode cX7_plainTelling 40 = .ok (.ireturn, 1) := by decide +kernel
theorem dX7_weight_0 : decode cX7_weight 0 = .ok (.aload_n 1, 1) := by decide +kernel
theorem dX7_weight_1 : decode cX7_weight 1 = .ok (.iconst 4, 1) := by decide +kernel
theorem dX7_weight_2 : decode cX7_weight 2 = .ok (.invokevirtual 24, 3) := by decide +kernel
theorem dX7_weight_5 : decode cX7_weight 5 = .ok (.aload_n 0, 1) := by decide +kernel
theorem dX7_weight_6 : decode cX7_weight 6 = .ok (.getfield 7, 3) := by decide +kernel
theorem dX7_weight_9 : decode cX7_weight 9 = .ok (.ireturn, 1) := by decide +kernel
theorem dX7_isOfKind_0 : decode cX7_isOfKind 0 = .ok (.iload_n 1, 1) := by decide +kernel
theorem dX7_isOfKind_1 : decode cX7_isOfKind 1 = .ok (.ifCond .ne 7, 3) := by decide +kernel
theorem dX7_isOfKind_4 : decode cX7_isOfKind 4 = .ok (.iconst 1, 1) := by decide +kernel
theorem dX7_isOfKind_5 : decode cX7_isOfKind 5 = .ok (.goto 4, 3) := by decide +kernel
theorem dX7_isOfKind_8 : decode cX7_isOfKind 8 = .ok (.iconst 0, 1) := by decide +kernel
theorem dX7_isOfKind_9 : decode cX7_isOfKind 9 = .ok (.ireturn, 1) := by decide +kernel
