theorem dX11_init_0 : decode cX11_init 0 = .ok (.aload_n 0, 1) := by decide +kernel
theorem dX11_init_1 : decode cX11_init 1 = .ok (.invokespecial 5, 3) := by decide +kernel
theorem dX11_init_4 : decode cX11_init 4 = .ok (.aload_n 0, 1) := by decide +kernel
theorem dX11_init_5 : decode cX11_init 5 = .ok (.new 11, 3) := by decide +kernel
theorem dX11_init_8 : decode cX11_init 8 = .ok (.dup, 1) := by decide +kernel
theorem dX11_init_9 : decode cX11_init 9 = .ok (.invokespecial 13, 3) := by decide +kernel
theorem dX11_init_12 : decode cX11_init 12 = .ok (.putfield 14, 3) := by decide +kernel
theorem dX11_init_15 : decode cX11_init 15 = .ok (.aload_n 0, 1) := by decide +kernel
theorem dX11_init_16 : decode cX11_init 16 = .ok (.new 18, 3) := by decide +kernel
theorem dX11_init_19 : decode cX11_init 19 = .ok (.dup, 1) := by decide +kernel
theorem dX11_init_20 : decode cX11_init 20 = .ok (.aload_n 0, 1) := by decide +kernel
theorem dX11_init_21 : decode cX11_init 21 = .ok (.getfield 14, 3) := by decide +kernel
theorem dX11_init_24 : decode cX11_init 24 = .ok (.invokespecial 20, 3) := by decide +kernel
theorem dX11_init_27 : decode cX11_init 27 = .ok (.putfield 23, 3) := by decide +kernel
theorem dX11_init_30 : decode cX11_init 30 = .ok (.aload_n 0, 1) := by decide +kernel
theorem dX11_init_31 : decode cX11_init 31 = .ok (.new 27, 3) := by decide +kernel
theorem dX11_init_34 : decode cX11_init 34 = .ok (.dup, 1) := by decide +kernel
theorem dX11_init_35 : decode cX11_init 35 = .ok (.aload_n 0, 1) := by decide +kernel
theorem dX11_init_36 : decode cX11_init 36 = .ok (.getfield 14, 3) := by decide +kernel
theorem dX11_init_39 : decode cX11_init 39 = .ok (.invokespecial 29, 3) := by decide +kernel
theorem dX11_init_42 : decode cX11_init 42 = .ok (.putfield 30, 3) := by decide +kernel
theorem dX11_init_45 : decode cX11_init 45 = .ok (.aload_n 0, 1) := by decide +kernel
theorem dX11_init_46 : decode cX11_init 46 = .ok (.bipush 10, 2) := by decide +kernel
theorem dX11_init_48 : decode cX11_init 48 = .ok (.anewarray 34, 3) := by decide +kernel
theorem dX11_init_51 : decode cX11_init 51 = .ok (.putfield 36, 3) := by decide +kernel
theorem dX11_init_54 : decode cX11_init 54 = .ok (.aload_n 0, 1) := by decide +kernel
theorem dX11_init_55 : decode cX11_init 55 = .ok (.iconst 4, 1) := by decide +kernel
theorem dX11_init_56 : decode cX11_init 56 = .ok (.anewarray 40, 3) := by decide +kernel
theorem dX11_init_59 : decode cX11_init 59 = .ok (.putfield 42, 3) := by decide +kernel
theorem dX11_init_62 : decode cX11_init 62 = .ok (.aload_n 0, 1) := by decide +kernel
theorem dX11_init_63 : decode cX11_init 63 = .ok (.new 46, 3) := by decide +kernel
theorem dX11_init_66 : decode cX11_init 66 = .ok (.dup, 1) := by decide +kernel
theorem dX11_init_67 : decode cX11_init 67 = .ok (.invokespecial 48, 3) := by decide +kernel
theorem dX11_init_70 : decode cX11_init 70 = .ok (.putfield 49, 3) := by decide +kernel
theorem dX11_init_73 : decode cX11_init 73 = .ok (.iconst 0, 1) := by decide +kernel
theorem dX11_init_74 : decode cX11_init 74 = .ok (.istore_n 1, 1) := by decide +kernel
theorem dX11_init_75 : decode cX11_init 75 = .ok (.iload_n 1, 1) := by decide +kernel
theorem dX11_init_76 : decode cX11_init 76 = .ok (.bipush 10, 2) := by decide +kernel
theorem dX11_init_78 : decode cX11_init 78 = .ok (.if_icmp .ge 22, 3) := by decide +kernel
theorem dX11_init_81 : decode cX11_init 81 = .ok (.aload_n 0, 1) := by decide +kernel
theorem dX11_init_82 : decode cX11_init 82 = .ok (.getfield 36, 3) := by decide +kernel
theorem dX11_init_85 : decode cX11_init 85 = .ok (.iload_n 1, 1) := by decide +kernel
theorem dX11_init_86 : decode cX11_init 86 = .ok (.new 34, 3) := by decide +kernel
theorem dX11_init_89 : decode cX11_init 89 = .ok (.dup, 1) := by decide +kernel
theorem dX11_init_90 : decode cX11_init 90 = .ok (.invokespecial 53, 3) := by decide +kernel
theorem dX11_init_93 : decode cX11_init 93 = .ok (.aastore, 1) := by decide +kernel
theorem dX11_init_94 : decode cX11_init 94 = .ok (.iinc 1 1, 3) := by decide +kernel
theorem dX11_init_97 : decode cX11_init 97 = .ok (.goto (-22), 3) := by decide +kernel
theorem dX11_init_100 : decode cX11_init 100 = .ok (.iconst 0, 1) := by decide +kernel
theorem dX11_init_101 : decode cX11_init 101 = .ok (.istore_n 1, 1) := by decide +kernel
theorem dX11_init_102 : decode cX11_init 102 = .ok (.iload_n 1, 1) := by decide +kernel
theorem dX11_init_103 : decode cX11_init 103 = .ok (.iconst 4, 1) := by decide +kernel
theorem dX11_init_104 : decode cX11_init 104 = .ok (.if_icmp .ge 22, 3) := by decide +kernel
theorem dX11_init_107 : decode cX11_init 107 = .ok (.aload_n 0, 1) := by decide +kernel
theorem dX11_init_108 : decode cX11_init 108 = .ok (.getfield 42, 3) := by decide +kernel
theorem dX11_init_111 : decode cX11_init 111 = .ok (.iload_n 1, 1) := by decide +kernel
theorem dX11_init_112 : decode cX11_init 112 = .ok (.new 40, 3) := by decide +kernel
theorem dX11_init_115 : decode cX11_init 115 = .ok (.dup, 1) := by decide +kernel
theorem dX11_init_116 : decode cX11_init 116 = .ok (.invokespecial 54, 3) := by decide +kernel
theorem dX11_init_119 : decode cX11_init 119 = .ok (.aastore, 1) := by decide +kernel
theorem dX11_init_120 : decode cX11_init 120 = .ok (.iinc 1 1, 3) := by decide +kernel
theorem dX11_init_123 : decode cX11_init 123 = .ok (.goto (-21), 3) := by decide +kernel
theorem dX11_init_126 : decode cX11_init 126 = .ok (.return_, 1) := by decide +kernel
theorem dX11_begin_0 : decode cX11_begin 0 = .ok (.iload_n 1, 1) := by decide +kernel
theorem dX11_begin_1 : decode cX11_begin 1 = .ok (.iconst 2, 1) := by decide +kernel
theorem dX11_begin_2 : decode cX11_begin 2 = .ok (.iconst 3, 1) := by decide +kernel
theorem dX11_begin_3 : decode cX11_begin 3 = .ok (.invokestatic 55, 3) := by decide +kernel
theorem dX11_begin_6 : decode cX11_begin 6 = .ok (.ifCond .eq 17, 3) := by decide +kernel
theorem dX11_begin_9 : decode cX11_begin 9 = .ok (.iload_n 2, 1) := by decide +kernel
theorem dX11_begin_10 : decode cX11_begin 10 = .ok (.ifCond .eq 16, 3) := by decide +kernel
theorem dX11_begin_13 : decode cX11_begin 13 = .ok (.iload_n 2, 1) := by decide +kernel
theorem dX11_begin_14 : decode cX11_begin 14 = .ok (.iconst 2, 1) := by decide +kernel
theorem dX11_begin_15 : decode cX11_begin 15 = .ok (.bipush 97, 2) := by decide +kernel
theorem dX11_begin_17 : decode cX11_begin 17 = .ok (.invokestatic 55, 3) := by decide +kernel
theorem dX11_begin_20 : decode cX11_begin 20 = .ok (.ifCond .ne 6, 3) := by decide +kernel
theorem dX11_begin_23 : decode cX11_begin 23 = .ok (.bipush (-2), 2) := by decide +kernel
theorem dX11_begin_25 : decode cX11_begin 25 = .ok (.ireturn, 1) := by decide +kernel
theorem dX11_begin_26 : decode cX11_begin 26 = .ok (.aload_n 0, 1) := by decide +kernel
theorem dX11_begin_27 : decode cX11_begin 27 = .ok (.getfield 14, 3) := by decide +kernel
theorem dX11_begin_30 : decode cX11_begin 30 = .ok (.iload_n 1, 1) := by decide +kernel
theorem dX11_begin_31 : decode cX11_begin 31 = .ok (.iload_n 2, 1) := by decide +kernel
theorem dX11_begin_32 : decode cX11_begin 32 = .ok (.invokevirtual 59, 3) := by decide +kernel
theorem dX11_begin_35 : decode cX11_begin 35 = .ok (.aload_n 0, 1) := by decide +kernel
theorem dX11_begin_36 : decode cX11_begin 36 = .ok (.getfield 23, 3) := by decide +kernel
theorem dX11_begin_39 : decode cX11_begin 39 = .ok (.invokevirtual 63, 3) := by decide +kernel
theorem dX11_begin_42 : decode cX11_begin 42 = .ok (.aload_n 0, 1) := by decide +kernel
theorem dX11_begin_43 : decode cX11_begin 43 = .ok (.getfield 30, 3) := by decide +kernel
theorem dX11_begin_46 : decode cX11_begin 46 = .ok (.invokevirtual 66, 3) := by decide +kernel
theorem dX11_begin_49 : decode cX11_begin 49 = .ok (.aload_n 0, 1) := by decide +kernel
theorem dX11_begin_50 : decode cX11_begin 50 = .ok (.iconst 0, 1) := by decide +kernel
theorem dX11_begin_51 : decode cX11_begin 51 = .ok (.putfield 67, 3) := by decide +kernel
theorem dX11_begin_54 : decode cX11_begin 54 = .ok (.iconst 1, 1) := by decide +kernel
theorem dX11_begin_55 : decode cX11_begin 55 = .ok (.ireturn, 1) := by decide +kernel
theorem dX11_table_0 : decode cX11_table 0 = .ok (.aload_n 0, 1) := by decide +kernel
theorem dX11_table_1 : decode cX11_table 1 = .ok (.aload_n 0, 1) := by decide +kernel
theorem dX11_table_2 : decode cX11_table 2 = .ok (.iload_n 1, 1) := by decide +kernel
theorem dX11_table_3 : decode cX11_table 3 = .ok (.iload_n 2, 1) := by decide +kernel
theorem dX11_table_4 : decode cX11_table 4 = .ok (.iload_n 3, 1) := by decide +kernel
theorem dX11_table_5 : decode cX11_table 5 = .ok (.invokevirtual 71, 3) := by decide +kernel
theorem dX11_table_8 : decode cX11_table 8 = .ok (.invokevirtual 75, 3) := by decide +kernel
theorem dX11_table_11 : decode cX11_table 11 = .ok (.ireturn, 1) := by decide +kernel
theorem dX11_entry_0 : decode cX11_entry 0 = .ok (.aload_n 0, 1) := by decide +kernel
theorem dX11_entry_1 : decode cX11_entry 1 = .ok (.getfield 14, 3) := by decide +kernel
theorem dX11_entry_4 : decode cX11_entry 4 = .ok (.iload_n 1, 1) := by decide +kernel
theorem dX11_entry_5 : decode cX11_entry 5 = .ok (.invokevirtual 79, 3) := by decide +kernel
theorem dX11_entry_8 : decode cX11_entry 8 = .ok (.ifCond .eq 15, 3) := by decide +kernel
theorem dX11_entry_11 : decode cX11_entry 11 = .ok (.aload_n 0, 1) := by decide +kernel
theorem dX11_entry_12 : decode cX11_entry 12 = .ok (.getfield 14, 3) := by decide +kernel
theorem dX11_entry_15 : decode cX11_entry 15 = .ok (.iload_n 2, 1) := by decide +kernel
theorem dX11_entry_16 : decode cX11_entry 16 = .ok (.iload_n 3, 1) := by decide +kernel
theorem dX11_entry_17 : decode cX11_entry 17 = .ok (.invokevirtual 83, 3) := by decide +kernel
theorem dX11_entry_20 : decode cX11_entry 20 = .ok (.ifCond .ne 7, 3) := by decide +kernel
theorem dX11_entry_23 : decode cX11_entry 23 = .ok (.ldc2_w 87, 3) := by decide +kernel
theorem dX11_entry_26 : decode cX11_entry 26 = .ok (.lreturn, 1) := by decide +kernel
theorem dX11_entry_27 : decode cX11_entry 27 = .ok (.aload_n 0, 1) := by decide +kernel
theorem dX11_entry_28 : decode cX11_entry 28 = .ok (.getfield 14, 3) := by decide +kernel
theorem dX11_entry_31 : decode cX11_entry 31 = .ok (.iload_n 1, 1) := by decide +kernel
theorem dX11_entry_32 : decode cX11_entry 32 = .ok (.invokevirtual 89, 3) := by decide +kernel
theorem dX11_entry_35 : decode cX11_entry 35 = .ok (.getfield 93, 3) := by decide +kernel
theorem dX11_entry_38 : decode cX11_entry 38 = .ok (.aload_n 0, 1) := by decide +kernel
theorem dX11_entry_39 : decode cX11_entry 39 = .ok (.getfield 14, 3) := by decide +kernel
theorem dX11_entry_42 : decode cX11_entry 42 = .ok (.iload_n 2, 1) := by decide +kernel
theorem dX11_entry_43 : decode cX11_entry 43 = .ok (.iload_n 3, 1) := by decide +kernel
theorem dX11_entry_44 : decode cX11_entry 44 = .ok (.invokevirtual 99, 3) := by decide +kernel
theorem dX11_entry_47 : decode cX11_entry 47 = .ok (.iaload, 1) := by decide +kernel
theorem dX11_entry_48 : decode cX11_entry 48 = .ok (.i2l, 1) := by decide +kernel
theorem dX11_entry_49 : decode cX11_entry 49 = .ok (.lreturn, 1) := by decide +kernel
theorem dX11_may_0 : decode cX11_may 0 = .ok (.aload_n 0, 1) := by decide +kernel
theorem dX11_may_1 : decode cX11_may 1 = .ok (.getfield 14, 3) := by decide +kernel
theorem dX11_may_4 : decode cX11_may 4 = .ok (.iload_n 1, 1) := by decide +kernel
theorem dX11_may_5 : decode cX11_may 5 = .ok (.invokevirtual 79, 3) := by decide +kernel
theorem dX11_may_8 : decode cX11_may 8 = .ok (.ifCond .eq 14, 3) := by decide +kernel
theorem dX11_may_11 : decode cX11_may 11 = .ok (.aload_n 0, 1) := by decide +kernel
theorem dX11_may_12 : decode cX11_may 12 = .ok (.getfield 14, 3) := by decide +kernel
theorem dX11_may_15 : decode cX11_may 15 = .ok (.iload_n 2, 1) := by decide +kernel
theorem dX11_may_16 : decode cX11_may 16 = .ok (.invokevirtual 79, 3) := by decide +kernel
theorem dX11_may_19 : decode cX11_may 19 = .ok (.ifCond .ne 5, 3) := by decide +kernel
theorem dX11_may_22 : decode cX11_may 22 = .ok (.iconst (-1), 1) := by decide +kernel
theorem dX11_may_23 : decode cX11_may 23 = .ok (.ireturn, 1) := by decide +kernel
theorem dX11_may_24 : decode cX11_may 24 = .ok (.aload_n 0, 1) := by decide +kernel
theorem dX11_may_25 : decode cX11_may 25 = .ok (.getfield 14, 3) := by decide +kernel
theorem dX11_may_28 : decode cX11_may 28 = .ok (.iload_n 1, 1) := by decide +kernel
theorem dX11_may_29 : decode cX11_may 29 = .ok (.iload_n 2, 1) := by decide +kernel
theorem dX11_may_30 : decode cX11_may 30 = .ok (.invokevirtual 103, 3) := by decide +kernel
theorem dX11_may_33 : decode cX11_may 33 = .ok (.iload_n 3, 1) := by decide +kernel
theorem dX11_may_34 : decode cX11_may 34 = .ok (.if_icmp .ne 5, 3) := by decide +kernel
theorem dX11_may_37 : decode cX11_may 37 = .ok (.iconst 0, 1) := by decide +kernel
theorem dX11_may_38 : decode cX11_may 38 = .ok (.ireturn, 1) := by decide +kernel
theorem dX11_may_39 : decode cX11_may 39 = .ok (.aload_n 0, 1) := by decide +kernel
theorem dX11_may_40 : decode cX11_may 40 = .ok (.getfield 14, 3) := by decide +kernel
theorem dX11_may_43 : decode cX11_may 43 = .ok (.iload_n 1, 1) := by decide +kernel
theorem dX11_may_44 : decode cX11_may 44 = .ok (.iload_n 2, 1) := by decide +kernel
theorem dX11_may_45 : decode cX11_may 45 = .ok (.iload_n 3, 1) := by decide +kernel
theorem dX11_may_46 : decode cX11_may 46 = .ok (.invokevirtual 106, 3) := by decide +kernel
theorem dX11_may_49 : decode cX11_may 49 = .ok (.aload_n 0, 1) := by decide +kernel
theorem dX11_may_50 : decode cX11_may 50 = .ok (.getfield 23, 3) := by decide +kernel
theorem dX11_may_53 : decode cX11_may 53 = .ok (.invokevirtual 63, 3) := by decide +kernel
theorem dX11_may_56 : decode cX11_may 56 = .ok (.iconst 1, 1) := by decide +kernel
theorem dX11_may_57 : decode cX11_may 57 = .ok (.ireturn, 1) := by decide +kernel
theorem dX11_length_0 : decode cX11_length 0 = .ok (.iload_n 1, 1) := by decide +kernel
theorem dX11_length_1 : decode cX11_length 1 = .ok (.iconst 1, 1) := by decide +kernel
theorem dX11_length_2 : decode cX11_length 2 = .ok (.bipush 8, 2) := by decide +kernel
theorem dX11_length_4 : decode cX11_length 4 = .ok (.invokestatic 55, 3) := by decide +kernel
theorem dX11_length_7 : decode cX11_length 7 = .ok (.ifCond .eq 12, 3) := by decide +kernel
theorem dX11_length_10 : decode cX11_length 10 = .ok (.iload_n 2, 1) := by decide +kernel
theorem dX11_length_11 : decode cX11_length 11 = .ok (.iconst 0, 1) := by decide +kernel
theorem dX11_length_12 : decode cX11_length 12 = .ok (.iconst 3, 1) := by decide +kernel
theorem dX11_length_13 : decode cX11_length 13 = .ok (.invokestatic 55, 3) := by decide +kernel
theorem dX11_length_16 : decode cX11_length 16 = .ok (.ifCond .ne 7, 3) := by decide +kernel
theorem dX11_length_19 : decode cX11_length 19 = .ok (.ldc2_w 87, 3) := by decide +kernel
theorem dX11_length_22 : decode cX11_length 22 = .ok (.lreturn, 1) := by decide +kernel
theorem dX11_length_23 : decode cX11_length 23 = .ok (.aload_n 0, 1) := by decide +kernel
theorem dX11_length_24 : decode cX11_length 24 = .ok (.getfield 23, 3) := by decide +kernel
theorem dX11_length_27 : decode cX11_length 27 = .ok (.iload_n 1, 1) := by decide +kernel
theorem dX11_length_28 : decode cX11_length 28 = .ok (.invokevirtual 110, 3) := by decide +kernel
theorem dX11_length_31 : decode cX11_length 31 = .ok (.ifCond .eq 7, 3) := by decide +kernel
theorem dX11_length_34 : decode cX11_length 34 = .ok (.ldc2_w 87, 3) := by decide +kernel
theorem dX11_length_37 : decode cX11_length 37 = .ok (.lreturn, 1) := by decide +kernel
theorem dX11_length_38 : decode cX11_length 38 = .ok (.aload_n 0, 1) := by decide +kernel
theorem dX11_length_39 : decode cX11_length 39 = .ok (.getfield 23, 3) := by decide +kernel
theorem dX11_length_42 : decode cX11_length 42 = .ok (.iload_n 1, 1) := by decide +kernel
theorem dX11_length_43 : decode cX11_length 43 = .ok (.invokevirtual 113, 3) := by decide +kernel
theorem dX11_length_46 : decode cX11_length 46 = .ok (.ifCond .ne 7, 3) := by decide +kernel
theorem dX11_length_49 : decode cX11_length 49 = .ok (.iconst 1, 1) := by decide +kernel
theorem dX11_length_50 : decode cX11_length 50 = .ok (.goto 4, 3) := by decide +kernel
theorem dX11_length_53 : decode cX11_length 53 = .ok (.iconst 0, 1) := by decide +kernel
theorem dX11_length_54 : decode cX11_length 54 = .ok (.istore_n 3, 1) := by decide +kernel
theorem dX11_length_55 : decode cX11_length 55 = .ok (.iload_n 2, 1) := by decide +kernel
theorem dX11_length_56 : decode cX11_length 56 = .ok (.tableswitch 82 0 2 #[28, 38, 60], 28) := by decide +kernel
theorem dX11_length_84 : decode cX11_length 84 = .ok (.aload_n 0, 1) := by decide +kernel
theorem dX11_length_85 : decode cX11_length 85 = .ok (.getfield 23, 3) := by decide +kernel
theorem dX11_length_88 : decode cX11_length 88 = .ok (.iload_n 1, 1) := by decide +kernel
theorem dX11_length_89 : decode cX11_length 89 = .ok (.invokevirtual 113, 3) := by decide +kernel
theorem dX11_length_92 : decode cX11_length 92 = .ok (.i2l, 1) := by decide +kernel
theorem dX11_length_93 : decode cX11_length 93 = .ok (.lreturn, 1) := by decide +kernel
theorem dX11_length_94 : decode cX11_length 94 = .ok (.iload_n 3, 1) := by decide +kernel
theorem dX11_length_95 : decode cX11_length 95 = .ok (.ifCond .eq 9, 3) := by decide +kernel
theorem dX11_length_98 : decode cX11_length 98 = .ok (.ldc2_w 87, 3) := by decide +kernel
theorem dX11_length_101 : decode cX11_length 101 = .ok (.goto 14, 3) := by decide +kernel
theorem dX11_length_104 : decode cX11_length 104 = .ok (.aload_n 0, 1) := by decide +kernel
theorem dX11_length_105 : decode cX11_length 105 = .ok (.getfield 23, 3) := by decide +kernel
theorem dX11_length_108 : decode cX11_length 108 = .ok (.iload_n 1, 1) := by decide +kernel
theorem dX11_length_109 : decode cX11_length 109 = .ok (.invokevirtual 116, 3) := by decide +kernel
theorem dX11_length_112 : decode cX11_length 112 = .ok (.getfield 120, 3) := by decide +kernel
theorem dX11_length_115 : decode cX11_length 115 = .ok (.lreturn, 1) := by decide +kernel
theorem dX11_length_116 : decode cX11_length 116 = .ok (.iload_n 3, 1) := by decide +kernel
theorem dX11_length_117 : decode cX11_length 117 = .ok (.ifCond .eq 9, 3) := by decide +kernel
theorem dX11_length_120 : decode cX11_length 120 = .ok (.ldc2_w 87, 3) := by decide +kernel
theorem dX11_length_123 : decode cX11_length 123 = .ok (.goto 14, 3) := by decide +kernel
theorem dX11_length_126 : decode cX11_length 126 = .ok (.aload_n 0, 1) := by decide +kernel
theorem dX11_length_127 : decode cX11_length 127 = .ok (.getfield 23, 3) := by decide +kernel
theorem dX11_length_130 : decode cX11_length 130 = .ok (.iload_n 1, 1) := by decide +kernel
theorem dX11_length_131 : decode cX11_length 131 = .ok (.invokevirtual 116, 3) := by decide +kernel
theorem dX11_length_134 : decode cX11_length 134 = .ok (.getfield 126, 3) := by decide +kernel
theorem dX11_length_137 : decode cX11_length 137 = .ok (.lreturn, 1) := by decide +kernel
theorem dX11_length_138 : decode cX11_length 138 = .ok (.aload_n 0, 1) := by decide +kernel
theorem dX11_length_139 : decode cX11_length 139 = .ok (.getfield 23, 3) := by decide +kernel
theorem dX11_length_142 : decode cX11_length 142 = .ok (.iload_n 1, 1) := by decide +kernel
theorem dX11_length_143 : decode cX11_length 143 = .ok (.invokevirtual 116, 3) := by decide +kernel
theorem dX11_length_146 : decode cX11_length 146 = .ok (.getfield 129, 3) := by decide +kernel
theorem dX11_length_149 : decode cX11_length 149 = .ok (.i2l, 1) := by decide +kernel
theorem dX11_length_150 : decode cX11_length 150 = .ok (.lreturn, 1) := by decide +kernel
theorem dX11_extreme_0 : decode cX11_extreme 0 = .ok (.iload_n 1, 1) := by decide +kernel
theorem dX11_extreme_1 : decode cX11_extreme 1 = .ok (.iconst 1, 1) := by decide +kernel
theorem dX11_extreme_2 : decode cX11_extreme 2 = .ok (.bipush 8, 2) := by decide +kernel
theorem dX11_extreme_4 : decode cX11_extreme 4 = .ok (.invokestatic 55, 3) := by decide +kernel
theorem dX11_extreme_7 : decode cX11_extreme 7 = .ok (.ifCond .eq 23, 3) := by decide +kernel
theorem dX11_extreme_10 : decode cX11_extreme 10 = .ok (.iload_n 2, 1) := by decide +kernel
theorem dX11_extreme_11 : decode cX11_extreme 11 = .ok (.iconst 0, 1) := by decide +kernel
theorem dX11_extreme_12 : decode cX11_extreme 12 = .ok (.iconst 1, 1) := by decide +kernel
theorem dX11_extreme_13 : decode cX11_extreme 13 = .ok (.invokestatic 55, 3) := by decide +kernel
theorem dX11_extreme_16 : decode cX11_extreme 16 = .ok (.ifCond .eq 14, 3) := by decide +kernel
theorem dX11_extreme_19 : decode cX11_extreme 19 = .ok (.iload_n 3, 1) := by decide +kernel
theorem dX11_extreme_20 : decode cX11_extreme 20 = .ok (.iconst 0, 1) := by decide +kernel
theorem dX11_extreme_21 : decode cX11_extreme 21 = .ok (.iload_n 1, 1) := by decide +kernel
theorem dX11_extreme_22 : decode cX11_extreme 22 = .ok (.iconst 1, 1) := by decide +kernel
theorem dX11_extreme_23 : decode cX11_extreme 23 = .ok (.isub, 1) := by decide +kernel
theorem dX11_extreme_24 : decode cX11_extreme 24 = .ok (.invokestatic 55, 3) := by decide +kernel
theorem dX11_extreme_27 : decode cX11_extreme 27 = .ok (.ifCond .ne 6, 3) := by decide +kernel
theorem dX11_extreme_30 : decode cX11_extreme 30 = .ok (.bipush (-2), 2) := by decide +kernel
theorem dX11_extreme_32 : decode cX11_extreme 32 = .ok (.ireturn, 1) := by decide +kernel
theorem dX11_extreme_33 : decode cX11_extreme 33 = .ok (.aload_n 0, 1) := by decide +kernel
theorem dX11_extreme_34 : decode cX11_extreme 34 = .ok (.getfield 23, 3) := by decide +kernel
theorem dX11_extreme_37 : decode cX11_extreme 37 = .ok (.iload_n 1, 1) := by decide +kernel
theorem dX11_extreme_38 : decode cX11_extreme 38 = .ok (.invokevirtual 110, 3) := by decide +kernel
theorem dX11_extreme_41 : decode cX11_extreme 41 = .ok (.ifCond .eq 6, 3) := by decide +kernel
theorem dX11_extreme_44 : decode cX11_extreme 44 = .ok (.bipush (-6), 2) := by decide +kernel
theorem dX11_extreme_46 : decode cX11_extreme 46 = .ok (.ireturn, 1) := by decide +kernel
theorem dX11_extreme_47 : decode cX11_extreme 47 = .ok (.aload_n 0, 1) := by decide +kernel
theorem dX11_extreme_48 : decode cX11_extreme 48 = .ok (.getfield 23, 3) := by decide +kernel
theorem dX11_extreme_51 : decode cX11_extreme 51 = .ok (.iload_n 1, 1) := by decide +kernel
theorem dX11_extreme_52 : decode cX11_extreme 52 = .ok (.invokevirtual 113, 3) := by decide +kernel
theorem dX11_extreme_55 : decode cX11_extreme 55 = .ok (.ifCond .ne 6, 3) := by decide +kernel
theorem dX11_extreme_58 : decode cX11_extreme 58 = .ok (.bipush (-9), 2) := by decide +kernel
theorem dX11_extreme_60 : decode cX11_extreme 60 = .ok (.ireturn, 1) := by decide +kernel
theorem dX11_extreme_61 : decode cX11_extreme 61 = .ok (.aload_n 0, 1) := by decide +kernel
theorem dX11_extreme_62 : decode cX11_extreme 62 = .ok (.getfield 23, 3) := by decide +kernel
theorem dX11_extreme_65 : decode cX11_extreme 65 = .ok (.iload_n 1, 1) := by decide +kernel
theorem dX11_extreme_66 : decode cX11_extreme 66 = .ok (.invokevirtual 116, 3) := by decide +kernel
theorem dX11_extreme_69 : decode cX11_extreme 69 = .ok (.astore 4, 2) := by decide +kernel
theorem dX11_extreme_71 : decode cX11_extreme 71 = .ok (.iload_n 2, 1) := by decide +kernel
theorem dX11_extreme_72 : decode cX11_extreme 72 = .ok (.ifCond .ne 13, 3) := by decide +kernel
theorem dX11_extreme_75 : decode cX11_extreme 75 = .ok (.aload 4, 2) := by decide +kernel
theorem dX11_extreme_77 : decode cX11_extreme 77 = .ok (.getfield 132, 3) := by decide +kernel
theorem dX11_extreme_80 : decode cX11_extreme 80 = .ok (.iload_n 3, 1) := by decide +kernel
theorem dX11_extreme_81 : decode cX11_extreme 81 = .ok (.iaload, 1) := by decide +kernel
theorem dX11_extreme_82 : decode cX11_extreme 82 = .ok (.goto 10, 3) := by decide +kernel
theorem dX11_extreme_85 : decode cX11_extreme 85 = .ok (.aload 4, 2) := by decide +kernel
theorem dX11_extreme_87 : decode cX11_extreme 87 = .ok (.getfield 135, 3) := by decide +kernel
theorem dX11_extreme_90 : decode cX11_extreme 90 = .ok (.iload_n 3, 1) := by decide +kernel
theorem dX11_extreme_91 : decode cX11_extreme 91 = .ok (.iaload, 1) := by decide +kernel
theorem dX11_extreme_92 : decode cX11_extreme 92 = .ok (.ireturn, 1) := by decide +kernel
theorem dX11_rings_0 : decode cX11_rings 0 = .ok (.iload_n 1, 1) := by decide +kernel
theorem dX11_rings_1 : decode cX11_rings 1 = .ok (.iconst 1, 1) := by decide +kernel
theorem dX11_rings_2 : decode cX11_rings 2 = .ok (.bipush 8, 2) := by decide +kernel
theorem dX11_rings_4 : decode cX11_rings 4 = .ok (.invokestatic 55, 3) := by decide +kernel
theorem dX11_rings_7 : decode cX11_rings 7 = .ok (.ifCond .ne 6, 3) := by decide +kernel
theorem dX11_rings_10 : decode cX11_rings 10 = .ok (.bipush (-2), 2) := by decide +kernel
theorem dX11_rings_12 : decode cX11_rings 12 = .ok (.ireturn, 1) := by decide +kernel
theorem dX11_rings_13 : decode cX11_rings 13 = .ok (.aload_n 0, 1) := by decide +kernel
theorem dX11_rings_14 : decode cX11_rings 14 = .ok (.getfield 23, 3) := by decide +kernel
theorem dX11_rings_17 : decode cX11_rings 17 = .ok (.iload_n 1, 1) := by decide +kernel
theorem dX11_rings_18 : decode cX11_rings 18 = .ok (.invokevirtual 110, 3) := by decide +kernel
theorem dX11_rings_21 : decode cX11_rings 21 = .ok (.ifCond .eq 8, 3) := by decide +kernel
theorem dX11_rings_24 : decode cX11_rings 24 = .ok (.bipush (-6), 2) := by decide +kernel
theorem dX11_rings_26 : decode cX11_rings 26 = .ok (.goto 14, 3) := by decide +kernel
theorem dX11_rings_29 : decode cX11_rings 29 = .ok (.aload_n 0, 1) := by decide +kernel
theorem dX11_rings_30 : decode cX11_rings 30 = .ok (.getfield 23, 3) := by decide +kernel
theorem dX11_rings_33 : decode cX11_rings 33 = .ok (.iload_n 1, 1) := by decide +kernel
theorem dX11_rings_34 : decode cX11_rings 34 = .ok (.invokevirtual 116, 3) := by decide +kernel
theorem dX11_rings_37 : decode cX11_rings 37 = .ok (.getfield 138, 3) := by decide +kernel
theorem dX11_rings_40 : decode cX11_rings 40 = .ok (.ireturn, 1) := by decide +kernel
theorem dX11_ringTrack_0 : decode cX11_ringTrack 0 = .ok (.iload_n 1, 1) := by decide +kernel
theorem dX11_ringTrack_1 : decode cX11_ringTrack 1 = .ok (.iconst 1, 1) := by decide +kernel
theorem dX11_ringTrack_2 : decode cX11_ringTrack 2 = .ok (.bipush 8, 2) := by decide +kernel
theorem dX11_ringTrack_4 : decode cX11_ringTrack 4 = .ok (.invokestatic 55, 3) := by decide +kernel
theorem dX11_ringTrack_7 : decode cX11_ringTrack 7 = .ok (.ifCond .eq 14, 3) := by decide +kernel
theorem dX11_ringTrack_10 : decode cX11_ringTrack 10 = .ok (.aload_n 0, 1) := by decide +kernel
theorem dX11_ringTrack_11 : decode cX11_ringTrack 11 = .ok (.getfield 23, 3) := by decide +kernel
theorem dX11_ringTrack_14 : decode cX11_ringTrack 14 = .ok (.iload_n 1, 1) := by decide +kernel
theorem dX11_ringTrack_15 : decode cX11_ringTrack 15 = .ok (.invokevirtual 110, 3) := by decide +kernel
theorem dX11_ringTrack_18 : decode cX11_ringTrack 18 = .ok (.ifCond .eq 7, 3) := by decide +kernel
theorem dX11_ringTrack_21 : decode cX11_ringTrack 21 = .ok (.ldc2_w 87, 3) := by decide +kernel
theorem dX11_ringTrack_24 : decode cX11_ringTrack 24 = .ok (.lreturn, 1) := by decide +kernel
theorem dX11_ringTrack_25 : decode cX11_ringTrack 25 = .ok (.aload_n 0, 1) := by decide +kernel
theorem dX11_ringTrack_26 : decode cX11_ringTrack 26 = .ok (.getfield 23, 3) := by decide +kernel
theorem dX11_ringTrack_29 : decode cX11_ringTrack 29 = .ok (.iload_n 1, 1) := by decide +kernel
theorem dX11_ringTrack_30 : decode cX11_ringTrack 30 = .ok (.invokevirtual 116, 3) := by decide +kernel
theorem dX11_ringTrack_33 : decode cX11_ringTrack 33 = .ok (.astore_n 2, 1) := by decide +kernel
theorem dX11_ringTrack_34 : decode cX11_ringTrack 34 = .ok (.aload_n 2, 1) := by decide +kernel
theorem dX11_ringTrack_35 : decode cX11_ringTrack 35 = .ok (.getfield 138, 3) := by decide +kernel
theorem dX11_ringTrack_38 : decode cX11_ringTrack 38 = .ok (.ifCond .ne 9, 3) := by decide +kernel
theorem dX11_ringTrack_41 : decode cX11_ringTrack 41 = .ok (.ldc2_w 87, 3) := by decide +kernel
theorem dX11_ringTrack_44 : decode cX11_ringTrack 44 = .ok (.goto 7, 3) := by decide +kernel
theorem dX11_ringTrack_47 : decode cX11_ringTrack 47 = .ok (.aload_n 2, 1) := by decide +kernel
theorem dX11_ringTrack_48 : decode cX11_ringTrack 48 = .ok (.getfield 141, 3) := by decide +kernel
theorem dX11_ringTrack_51 : decode cX11_ringTrack 51 = .ok (.lreturn, 1) := by decide +kernel
theorem dX11_ring_0 : decode cX11_ring 0 = .ok (.iload_n 1, 1) := by decide +kernel
theorem dX11_ring_1 : decode cX11_ring 1 = .ok (.iconst 1, 1) := by decide +kernel
theorem dX11_ring_2 : decode cX11_ring 2 = .ok (.bipush 8, 2) := by decide +kernel
theorem dX11_ring_4 : decode cX11_ring 4 = .ok (.invokestatic 55, 3) := by decide +kernel
theorem dX11_ring_7 : decode cX11_ring 7 = .ok (.ifCond .eq 14, 3) := by decide +kernel
theorem dX11_ring_10 : decode cX11_ring 10 = .ok (.iload_n 2, 1) := by decide +kernel
theorem dX11_ring_11 : decode cX11_ring 11 = .ok (.iconst 0, 1) := by decide +kernel
theorem dX11_ring_12 : decode cX11_ring 12 = .ok (.iload_n 1, 1) := by decide +kernel
theorem dX11_ring_13 : decode cX11_ring 13 = .ok (.iconst 1, 1) := by decide +kernel
theorem dX11_ring_14 : decode cX11_ring 14 = .ok (.isub, 1) := by decide +kernel
theorem dX11_ring_15 : decode cX11_ring 15 = .ok (.invokestatic 55, 3) := by decide +kernel
theorem dX11_ring_18 : decode cX11_ring 18 = .ok (.ifCond .ne 6, 3) := by decide +kernel
theorem dX11_ring_21 : decode cX11_ring 21 = .ok (.bipush (-2), 2) := by decide +kernel
theorem dX11_ring_23 : decode cX11_ring 23 = .ok (.ireturn, 1) := by decide +kernel
theorem dX11_ring_24 : decode cX11_ring 24 = .ok (.aload_n 0, 1) := by decide +kernel
theorem dX11_ring_25 : decode cX11_ring 25 = .ok (.getfield 23, 3) := by decide +kernel
theorem dX11_ring_28 : decode cX11_ring 28 = .ok (.iload_n 1, 1) := by decide +kernel
theorem dX11_ring_29 : decode cX11_ring 29 = .ok (.invokevirtual 110, 3) := by decide +kernel
theorem dX11_ring_32 : decode cX11_ring 32 = .ok (.ifCond .eq 6, 3) := by decide +kernel
theorem dX11_ring_35 : decode cX11_ring 35 = .ok (.bipush (-6), 2) := by decide +kernel
theorem dX11_ring_37 : decode cX11_ring 37 = .ok (.ireturn, 1) := by decide +kernel
theorem dX11_ring_38 : decode cX11_ring 38 = .ok (.aload_n 0, 1) := by decide +kernel
theorem dX11_ring_39 : decode cX11_ring 39 = .ok (.getfield 23, 3) := by decide +kernel
theorem dX11_ring_42 : decode cX11_ring 42 = .ok (.iload_n 1, 1) := by decide +kernel
theorem dX11_ring_43 : decode cX11_ring 43 = .ok (.invokevirtual 116, 3) := by decide +kernel
theorem dX11_ring_46 : decode cX11_ring 46 = .ok (.astore_n 3, 1) := by decide +kernel
theorem dX11_ring_47 : decode cX11_ring 47 = .ok (.aload_n 3, 1) := by decide +kernel
theorem dX11_ring_48 : decode cX11_ring 48 = .ok (.getfield 138, 3) := by decide +kernel
theorem dX11_ring_51 : decode cX11_ring 51 = .ok (.ifCond .ne 8, 3) := by decide +kernel
theorem dX11_ring_54 : decode cX11_ring 54 = .ok (.bipush (-9), 2) := by decide +kernel
theorem dX11_ring_56 : decode cX11_ring 56 = .ok (.goto 9, 3) := by decide +kernel
theorem dX11_ring_59 : decode cX11_ring 59 = .ok (.aload_n 3, 1) := by decide +kernel
theorem dX11_ring_60 : decode cX11_ring 60 = .ok (.getfield 144, 3) := by decide +kernel
theorem dX11_ring_63 : decode cX11_ring 63 = .ok (.iload_n 2, 1) := by decide +kernel
theorem dX11_ring_64 : decode cX11_ring 64 = .ok (.iaload, 1) := by decide +kernel
theorem dX11_ring_65 : decode cX11_ring 65 = .ok (.ireturn, 1) := by decide +kernel
theorem dX11_growth_0 : decode cX11_growth 0 = .ok (.iload_n 1, 1) := by decide +kernel
theorem dX11_growth_1 : decode cX11_growth 1 = .ok (.iconst 1, 1) := by decide +kernel
theorem dX11_growth_2 : decode cX11_growth 2 = .ok (.bipush 9, 2) := by decide +kernel
theorem dX11_growth_4 : decode cX11_growth 4 = .ok (.invokestatic 55, 3) := by decide +kernel
theorem dX11_growth_7 : decode cX11_growth 7 = .ok (.ifCond .eq 23, 3) := by decide +kernel
theorem dX11_growth_10 : decode cX11_growth 10 = .ok (.iload_n 2, 1) := by decide +kernel
theorem dX11_growth_11 : decode cX11_growth 11 = .ok (.iconst 1, 1) := by decide +kernel
theorem dX11_growth_12 : decode cX11_growth 12 = .ok (.bipush 9, 2) := by decide +kernel
theorem dX11_growth_14 : decode cX11_growth 14 = .ok (.invokestatic 55, 3) := by decide +kernel
theorem dX11_growth_17 : decode cX11_growth 17 = .ok (.ifCond .eq 13, 3) := by decide +kernel
theorem dX11_growth_20 : decode cX11_growth 20 = .ok (.iload_n 3, 1) := by decide +kernel
theorem dX11_growth_21 : decode cX11_growth 21 = .ok (.iconst 1, 1) := by decide +kernel
theorem dX11_growth_22 : decode cX11_growth 22 = .ok (.bipush 7, 2) := by decide +kernel
theorem dX11_growth_24 : decode cX11_growth 24 = .ok (.invokestatic 55, 3) := by decide +kernel
theorem dX11_growth_27 : decode cX11_growth 27 = .ok (.ifCond .ne 6, 3) := by decide +kernel
theorem dX11_growth_30 : decode cX11_growth 30 = .ok (.bipush (-2), 2) := by decide +kernel
theorem dX11_growth_32 : decode cX11_growth 32 = .ok (.ireturn, 1) := by decide +kernel
theorem dX11_growth_33 : decode cX11_growth 33 = .ok (.aload_n 0, 1) := by decide +kernel
theorem dX11_growth_34 : decode cX11_growth 34 = .ok (.getfield 14, 3) := by decide +kernel
theorem dX11_growth_37 : decode cX11_growth 37 = .ok (.invokevirtual 147, 3) := by decide +kernel
theorem dX11_growth_40 : decode cX11_growth 40 = .ok (.ifCond .gt 13, 3) := by decide +kernel
theorem dX11_growth_43 : decode cX11_growth 43 = .ok (.aload_n 0, 1) := by decide +kernel
theorem dX11_growth_44 : decode cX11_growth 44 = .ok (.getfield 14, 3) := by decide +kernel
theorem dX11_growth_47 : decode cX11_growth 47 = .ok (.invokevirtual 151, 3) := by decide +kernel
theorem dX11_growth_50 : decode cX11_growth 50 = .ok (.ifCond .ne 6, 3) := by decide +kernel
theorem dX11_growth_53 : decode cX11_growth 53 = .ok (.bipush (-3), 2) := by decide +kernel
theorem dX11_growth_55 : decode cX11_growth 55 = .ok (.ireturn, 1) := by decide +kernel
theorem dX11_growth_56 : decode cX11_growth 56 = .ok (.iconst 1, 1) := by decide +kernel
theorem dX11_growth_57 : decode cX11_growth 57 = .ok (.istore 4, 2) := by decide +kernel
theorem dX11_growth_59 : decode cX11_growth 59 = .ok (.iload 4, 2) := by decide +kernel
theorem dX11_growth_61 : decode cX11_growth 61 = .ok (.iload_n 3, 1) := by decide +kernel
theorem dX11_growth_62 : decode cX11_growth 62 = .ok (.if_icmp .gt 24, 3) := by decide +kernel
theorem dX11_growth_65 : decode cX11_growth 65 = .ok (.aload_n 0, 1) := by decide +kernel
theorem dX11_growth_66 : decode cX11_growth 66 = .ok (.getfield 23, 3) := by decide +kernel
theorem dX11_growth_69 : decode cX11_growth 69 = .ok (.iload 4, 2) := by decide +kernel
theorem dX11_growth_71 : decode cX11_growth 71 = .ok (.invokevirtual 110, 3) := by decide +kernel
theorem dX11_growth_74 : decode cX11_growth 74 = .ok (.ifCond .eq 6, 3) := by decide +kernel
theorem dX11_growth_77 : decode cX11_growth 77 = .ok (.bipush (-6), 2) := by decide +kernel
theorem dX11_growth_79 : decode cX11_growth 79 = .ok (.ireturn, 1) := by decide +kernel
theorem dX11_growth_80 : decode cX11_growth 80 = .ok (.iinc 4 1, 3) := by decide +kernel
theorem dX11_growth_83 : decode cX11_growth 83 = .ok (.goto (-24), 3) := by decide +kernel
theorem dX11_growth_86 : decode cX11_growth 86 = .ok (.aload_n 0, 1) := by decide +kernel
theorem dX11_growth_87 : decode cX11_growth 87 = .ok (.getfield 23, 3) := by decide +kernel
theorem dX11_growth_90 : decode cX11_growth 90 = .ok (.iload_n 1, 1) := by decide +kernel
theorem dX11_growth_91 : decode cX11_growth 91 = .ok (.iload_n 2, 1) := by decide +kernel
theorem dX11_growth_92 : decode cX11_growth 92 = .ok (.iload_n 3, 1) := by decide +kernel
theorem dX11_growth_93 : decode cX11_growth 93 = .ok (.invokevirtual 154, 3) := by decide +kernel
