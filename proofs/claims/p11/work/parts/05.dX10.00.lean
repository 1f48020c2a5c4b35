theorem dX10_init_0 : decode cX10_init 0 = .ok (.aload_n 0, 1) := by decide +kernel
theorem dX10_init_1 : decode cX10_init 1 = .ok (.invokespecial 3, 3) := by decide +kernel
theorem dX10_init_4 : decode cX10_init 4 = .ok (.aload_n 0, 1) := by decide +kernel
theorem dX10_init_5 : decode cX10_init 5 = .ok (.bipush 12, 2) := by decide +kernel
theorem dX10_init_7 : decode cX10_init 7 = .ok (.newarray .int, 2) := by decide +kernel
theorem dX10_init_9 : decode cX10_init 9 = .ok (.putfield 9, 3) := by decide +kernel
theorem dX10_init_12 : decode cX10_init 12 = .ok (.aload_n 0, 1) := by decide +kernel
theorem dX10_init_13 : decode cX10_init 13 = .ok (.bipush 9, 2) := by decide +kernel
theorem dX10_init_15 : decode cX10_init 15 = .ok (.newarray .long, 2) := by decide +kernel
theorem dX10_init_17 : decode cX10_init 17 = .ok (.putfield 15, 3) := by decide +kernel
theorem dX10_init_20 : decode cX10_init 20 = .ok (.return_, 1) := by decide +kernel
theorem dX10_clear_0 : decode cX10_clear 0 = .ok (.aload_n 0, 1) := by decide +kernel
theorem dX10_clear_1 : decode cX10_clear 1 = .ok (.iconst 0, 1) := by decide +kernel
theorem dX10_clear_2 : decode cX10_clear 2 = .ok (.putfield 19, 3) := by decide +kernel
theorem dX10_clear_5 : decode cX10_clear 5 = .ok (.return_, 1) := by decide +kernel
theorem dX10_append_0 : decode cX10_append 0 = .ok (.aload_n 0, 1) := by decide +kernel
theorem dX10_append_1 : decode cX10_append 1 = .ok (.getfield 19, 3) := by decide +kernel
theorem dX10_append_4 : decode cX10_append 4 = .ok (.bipush 12, 2) := by decide +kernel
theorem dX10_append_6 : decode cX10_append 6 = .ok (.if_icmp .ge 23, 3) := by decide +kernel
theorem dX10_append_9 : decode cX10_append 9 = .ok (.aload_n 0, 1) := by decide +kernel
theorem dX10_append_10 : decode cX10_append 10 = .ok (.getfield 9, 3) := by decide +kernel
theorem dX10_append_13 : decode cX10_append 13 = .ok (.aload_n 0, 1) := by decide +kernel
theorem dX10_append_14 : decode cX10_append 14 = .ok (.getfield 19, 3) := by decide +kernel
theorem dX10_append_17 : decode cX10_append 17 = .ok (.iload_n 1, 1) := by decide +kernel
theorem dX10_append_18 : decode cX10_append 18 = .ok (.iastore, 1) := by decide +kernel
theorem dX10_append_19 : decode cX10_append 19 = .ok (.aload_n 0, 1) := by decide +kernel
theorem dX10_append_20 : decode cX10_append 20 = .ok (.dup, 1) := by decide +kernel
theorem dX10_append_21 : decode cX10_append 21 = .ok (.getfield 19, 3) := by decide +kernel
theorem dX10_append_24 : decode cX10_append 24 = .ok (.iconst 1, 1) := by decide +kernel
theorem dX10_append_25 : decode cX10_append 25 = .ok (.iadd, 1) := by decide +kernel
theorem dX10_append_26 : decode cX10_append 26 = .ok (.putfield 19, 3) := by decide +kernel
theorem dX10_append_29 : decode cX10_append 29 = .ok (.return_, 1) := by decide +kernel
theorem dX10_appendAll_0 : decode cX10_appendAll 0 = .ok (.iconst 0, 1) := by decide +kernel
theorem dX10_appendAll_1 : decode cX10_appendAll 1 = .ok (.istore_n 2, 1) := by decide +kernel
theorem dX10_appendAll_2 : decode cX10_appendAll 2 = .ok (.iload_n 2, 1) := by decide +kernel
theorem dX10_appendAll_3 : decode cX10_appendAll 3 = .ok (.aload_n 1, 1) := by decide +kernel
theorem dX10_appendAll_4 : decode cX10_appendAll 4 = .ok (.getfield 19, 3) := by decide +kernel
theorem dX10_appendAll_7 : decode cX10_appendAll 7 = .ok (.if_icmp .ge 19, 3) := by decide +kernel
theorem dX10_appendAll_10 : decode cX10_appendAll 10 = .ok (.aload_n 0, 1) := by decide +kernel
theorem dX10_appendAll_11 : decode cX10_appendAll 11 = .ok (.aload_n 1, 1) := by decide +kernel
theorem dX10_appendAll_12 : decode cX10_appendAll 12 = .ok (.getfield 9, 3) := by decide +kernel
theorem dX10_appendAll_15 : decode cX10_appendAll 15 = .ok (.iload_n 2, 1) := by decide +kernel
theorem dX10_appendAll_16 : decode cX10_appendAll 16 = .ok (.iaload, 1) := by decide +kernel
theorem dX10_appendAll_17 : decode cX10_appendAll 17 = .ok (.invokevirtual 23, 3) := by decide +kernel
theorem dX10_appendAll_20 : decode cX10_appendAll 20 = .ok (.iinc 2 1, 3) := by decide +kernel
theorem dX10_appendAll_23 : decode cX10_appendAll 23 = .ok (.goto (-21), 3) := by decide +kernel
theorem dX10_appendAll_26 : decode cX10_appendAll 26 = .ok (.return_, 1) := by decide +kernel
