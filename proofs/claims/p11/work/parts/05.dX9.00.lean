theorem dX9_init_0 : decode cX9_init 0 = .ok (.aload_n 0, 1) := by decide +kernel
theorem dX9_init_1 : decode cX9_init 1 = .ok (.invokespecial 1, 3) := by decide +kernel
theorem dX9_init_4 : decode cX9_init 4 = .ok (.return_, 1) := by decide +kernel
theorem dX9_leave_0 : decode cX9_leave 0 = .ok (.aload_n 0, 1) := by decide +kernel
theorem dX9_leave_1 : decode cX9_leave 1 = .ok (.bipush 31, 2) := by decide +kernel
theorem dX9_leave_3 : decode cX9_leave 3 = .ok (.aload_n 0, 1) := by decide +kernel
theorem dX9_leave_4 : decode cX9_leave 4 = .ok (.getfield 7, 3) := by decide +kernel
theorem dX9_leave_7 : decode cX9_leave 7 = .ok (.imul, 1) := by decide +kernel
theorem dX9_leave_8 : decode cX9_leave 8 = .ok (.iload_n 1, 1) := by decide +kernel
theorem dX9_leave_9 : decode cX9_leave 9 = .ok (.iadd, 1) := by decide +kernel
theorem dX9_leave_10 : decode cX9_leave 10 = .ok (.putfield 7, 3) := by decide +kernel
theorem dX9_leave_13 : decode cX9_leave 13 = .ok (.return_, 1) := by decide +kernel
