theorem dX1_init_0 : decode cX1_init 0 = .ok (.aload_n 0, 1) := by decide +kernel
theorem dX1_init_1 : decode cX1_init 1 = .ok (.iload_n 1, 1) := by decide +kernel
theorem dX1_init_2 : decode cX1_init 2 = .ok (.iload_n 2, 1) := by decide +kernel
theorem dX1_init_3 : decode cX1_init 3 = .ok (.aload_n 3, 1) := by decide +kernel
theorem dX1_init_4 : decode cX1_init 4 = .ok (.invokespecial 1, 3) := by decide +kernel
theorem dX1_init_7 : decode cX1_init 7 = .ok (.return_, 1) := by decide +kernel
theorem dX1_telling_0 : decode cX1_telling 0 = .ok (.aload_n 1, 1) := by decide +kernel
theorem dX1_telling_1 : decode cX1_telling 1 = .ok (.iconst 2, 1) := by decide +kernel
theorem dX1_telling_2 : decode cX1_telling 2 = .ok (.invokevirtual 7, 3) := by decide +kernel
theorem dX1_telling_5 : decode cX1_telling 5 = .ok (.aload_n 0, 1) := by decide +kernel
theorem dX1_telling_6 : decode cX1_telling 6 = .ok (.aload_n 1, 1) := by decide +kernel
theorem dX1_telling_7 : decode cX1_telling 7 = .ok (.invokespecial 13, 3) := by decide +kernel
theorem dX1_telling_10 : decode cX1_telling 10 = .ok (.aload_n 0, 1) := by decide +kernel
theorem dX1_telling_11 : decode cX1_telling 11 = .ok (.invokevirtual 17, 3) := by decide +kernel
theorem dX1_telling_14 : decode cX1_telling 14 = .ok (.iadd, 1) := by decide +kernel
theorem dX1_telling_15 : decode cX1_telling 15 = .ok (.ireturn, 1) := by decide +kernel
theorem dX1_greatestEntry_0 : decode cX1_greatestEntry 0 = .ok (.iconst 0, 1) := by decide +kernel
theorem dX1_greatestEntry_1 : decode cX1_greatestEntry 1 = .ok (.istore_n 1, 1) := by decide +kernel
theorem dX1_greatestEntry_2 : decode cX1_greatestEntry 2 = .ok (.iconst 0, 1) := by decide +kernel
theorem dX1_greatestEntry_3 : decode cX1_greatestEntry 3 = .ok (.istore_n 2, 1) := by decide +kernel
theorem dX1_greatestEntry_4 : decode cX1_greatestEntry 4 = .ok (.iload_n 2, 1) := by decide +kernel
theorem dX1_greatestEntry_5 : decode cX1_greatestEntry 5 = .ok (.aload_n 0, 1) := by decide +kernel
theorem dX1_greatestEntry_6 : decode cX1_greatestEntry 6 = .ok (.getfield 23, 3) := by decide +kernel
theorem dX1_greatestEntry_9 : decode cX1_greatestEntry 9 = .ok (.aload_n 0, 1) := by decide +kernel
theorem dX1_greatestEntry_10 : decode cX1_greatestEntry 10 = .ok (.getfield 23, 3) := by decide +kernel
theorem dX1_greatestEntry_13 : decode cX1_greatestEntry 13 = .ok (.imul, 1) := by decide +kernel
theorem dX1_greatestEntry_14 : decode cX1_greatestEntry 14 = .ok (.if_icmp .ge 20, 3) := by decide +kernel
theorem dX1_greatestEntry_17 : decode cX1_greatestEntry 17 = .ok (.iload_n 1, 1) := by decide +kernel
theorem dX1_greatestEntry_18 : decode cX1_greatestEntry 18 = .ok (.aload_n 0, 1) := by decide +kernel
theorem dX1_greatestEntry_19 : decode cX1_greatestEntry 19 = .ok (.getfield 27, 3) := by decide +kernel
theorem dX1_greatestEntry_22 : decode cX1_greatestEntry 22 = .ok (.iload_n 2, 1) := by decide +kernel
theorem dX1_greatestEntry_23 : decode cX1_greatestEntry 23 = .ok (.iaload, 1) := by decide +kernel
theorem dX1_greatestEntry_24 : decode cX1_greatestEntry 24 = .ok (.invokestatic 31, 3) := by decide +kernel
theorem dX1_greatestEntry_27 : decode cX1_greatestEntry 27 = .ok (.istore_n 1, 1) := by decide +kernel
theorem dX1_greatestEntry_28 : decode cX1_greatestEntry 28 = .ok (.iinc 2 1, 3) := by decide +kernel
theorem dX1_greatestEntry_31 : decode cX1_greatestEntry 31 = .ok (.goto (-27), 3) := by decide +kernel
theorem dX1_greatestEntry_34 : decode cX1_greatestEntry 34 = .ok (.iload_n 1, 1) := by decide +kernel
theorem dX1_greatestEntry_35 : decode cX1_greatestEntry 35 = .ok (.ireturn, 1) := by decide +kernel
theorem dX1_isOfKind_0 : decode cX1_isOfKind 0 = .ok (.iload_n 1, 1) := by decide +kernel
theorem dX1_isOfKind_1 : decode cX1_isOfKind 1 = .ok (.iconst 1, 1) := by decide +kernel
theorem dX1_isOfKind_2 : decode cX1_isOfKind 2 = .ok (.if_icmp .eq 11, 3) := by decide +kernel
theorem dX1_isOfKind_5 : decode cX1_isOfKind 5 = .ok (.aload_n 0, 1) := by decide +kernel
theorem dX1_isOfKind_6 : decode cX1_isOfKind 6 = .ok (.iload_n 1, 1) := by decide +kernel
theorem dX1_isOfKind_7 : decode cX1_isOfKind 7 = .ok (.invokespecial 37, 3) := by decide +kernel
theorem dX1_isOfKind_10 : decode cX1_isOfKind 10 = .ok (.ifCond .eq 7, 3) := by decide +kernel
theorem dX1_isOfKind_13 : decode cX1_isOfKind 13 = .ok (.iconst 1, 1) := by decide +kernel
theorem dX1_isOfKind_14 : decode cX1_isOfKind 14 = .ok (.goto 4, 3) := by decide +kernel
theorem dX1_isOfKind_17 : decode cX1_isOfKind 17 = .ok (.iconst 0, 1) := by decide +kernel
theorem dX1_isOfKind_18 : decode cX1_isOfKind 18 = .ok (.ireturn, 1) := by decide +kernel
