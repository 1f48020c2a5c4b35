theorem dX8_init_0 : decode cX8_init 0 = .ok (.aload_n 0, 1) := by decide +kernel
theorem dX8_init_1 : decode cX8_init 1 = .ok (.invokespecial 3, 3) := by decide +kernel
theorem dX8_init_4 : decode cX8_init 4 = .ok (.aload_n 0, 1) := by decide +kernel
theorem dX8_init_5 : decode cX8_init 5 = .ok (.bipush 6, 2) := by decide +kernel
theorem dX8_init_7 : decode cX8_init 7 = .ok (.anewarray 9, 3) := by decide +kernel
theorem dX8_init_10 : decode cX8_init 10 = .ok (.putfield 11, 3) := by decide +kernel
theorem dX8_init_13 : decode cX8_init 13 = .ok (.aload_n 0, 1) := by decide +kernel
theorem dX8_init_14 : decode cX8_init 14 = .ok (.bipush 6, 2) := by decide +kernel
theorem dX8_init_16 : decode cX8_init 16 = .ok (.bipush 9, 2) := by decide +kernel
theorem dX8_init_18 : decode cX8_init 18 = .ok (.multianewarray 17 2, 4) := by decide +kernel
theorem dX8_init_22 : decode cX8_init 22 = .ok (.putfield 19, 3) := by decide +kernel
theorem dX8_init_25 : decode cX8_init 25 = .ok (.aload_n 0, 1) := by decide +kernel
theorem dX8_init_26 : decode cX8_init 26 = .ok (.bipush 36, 2) := by decide +kernel
theorem dX8_init_28 : decode cX8_init 28 = .ok (.newarray .boolean, 2) := by decide +kernel
theorem dX8_init_30 : decode cX8_init 30 = .ok (.putfield 22, 3) := by decide +kernel
theorem dX8_init_33 : decode cX8_init 33 = .ok (.aload_n 0, 1) := by decide +kernel
theorem dX8_init_34 : decode cX8_init 34 = .ok (.bipush 9, 2) := by decide +kernel
theorem dX8_init_36 : decode cX8_init 36 = .ok (.newarray .long, 2) := by decide +kernel
theorem dX8_init_38 : decode cX8_init 38 = .ok (.putfield 26, 3) := by decide +kernel
theorem dX8_init_41 : decode cX8_init 41 = .ok (.aload_n 0, 1) := by decide +kernel
theorem dX8_init_42 : decode cX8_init 42 = .ok (.iconst 2, 1) := by decide +kernel
theorem dX8_init_43 : decode cX8_init 43 = .ok (.putfield 30, 3) := by decide +kernel
theorem dX8_init_46 : decode cX8_init 46 = .ok (.aload_n 0, 1) := by decide +kernel
theorem dX8_init_47 : decode cX8_init 47 = .ok (.invokevirtual 34, 3) := by decide +kernel
theorem dX8_init_50 : decode cX8_init 50 = .ok (.return_, 1) := by decide +kernel
theorem dX8_restart_0 : decode cX8_restart 0 = .ok (.aload_n 0, 1) := by decide +kernel
theorem dX8_restart_1 : decode cX8_restart 1 = .ok (.iload_n 1, 1) := by decide +kernel
theorem dX8_restart_2 : decode cX8_restart 2 = .ok (.putfield 30, 3) := by decide +kernel
theorem dX8_restart_5 : decode cX8_restart 5 = .ok (.aload_n 0, 1) := by decide +kernel
theorem dX8_restart_6 : decode cX8_restart 6 = .ok (.iload_n 2, 1) := by decide +kernel
theorem dX8_restart_7 : decode cX8_restart 7 = .ok (.putfield 37, 3) := by decide +kernel
theorem dX8_restart_10 : decode cX8_restart 10 = .ok (.aload_n 0, 1) := by decide +kernel
theorem dX8_restart_11 : decode cX8_restart 11 = .ok (.iconst 0, 1) := by decide +kernel
theorem dX8_restart_12 : decode cX8_restart 12 = .ok (.putfield 40, 3) := by decide +kernel
theorem dX8_restart_15 : decode cX8_restart 15 = .ok (.aload_n 0, 1) := by decide +kernel
theorem dX8_restart_16 : decode cX8_restart 16 = .ok (.invokevirtual 34, 3) := by decide +kernel
theorem dX8_restart_19 : decode cX8_restart 19 = .ok (.return_, 1) := by decide +kernel
theorem dX8_allowAll_0 : decode cX8_allowAll 0 = .ok (.iconst 0, 1) := by decide +kernel
theorem dX8_allowAll_1 : decode cX8_allowAll 1 = .ok (.istore_n 1, 1) := by decide +kernel
theorem dX8_allowAll_2 : decode cX8_allowAll 2 = .ok (.iload_n 1, 1) := by decide +kernel
theorem dX8_allowAll_3 : decode cX8_allowAll 3 = .ok (.bipush 36, 2) := by decide +kernel
theorem dX8_allowAll_5 : decode cX8_allowAll 5 = .ok (.if_icmp .ge 16, 3) := by decide +kernel
theorem dX8_allowAll_8 : decode cX8_allowAll 8 = .ok (.aload_n 0, 1) := by decide +kernel
theorem dX8_allowAll_9 : decode cX8_allowAll 9 = .ok (.getfield 22, 3) := by decide +kernel
theorem dX8_allowAll_12 : decode cX8_allowAll 12 = .ok (.iload_n 1, 1) := by decide +kernel
theorem dX8_allowAll_13 : decode cX8_allowAll 13 = .ok (.iconst 1, 1) := by decide +kernel
theorem dX8_allowAll_14 : decode cX8_allowAll 14 = .ok (.bastore, 1) := by decide +kernel
theorem dX8_allowAll_15 : decode cX8_allowAll 15 = .ok (.iinc 1 1, 3) := by decide +kernel
theorem dX8_allowAll_18 : decode cX8_allowAll 18 = .ok (.goto (-16), 3) := by decide +kernel
theorem dX8_allowAll_21 : decode cX8_allowAll 21 = .ok (.return_, 1) := by decide +kernel
theorem dX8_count_0 : decode cX8_count 0 = .ok (.aload_n 0, 1) := by decide +kernel
theorem dX8_count_1 : decode cX8_count 1 = .ok (.getfield 40, 3) := by decide +kernel
theorem dX8_count_4 : decode cX8_count 4 = .ok (.ireturn, 1) := by decide +kernel
theorem dX8_dimension_0 : decode cX8_dimension 0 = .ok (.aload_n 0, 1) := by decide +kernel
theorem dX8_dimension_1 : decode cX8_dimension 1 = .ok (.getfield 30, 3) := by decide +kernel
theorem dX8_dimension_4 : decode cX8_dimension 4 = .ok (.ireturn, 1) := by decide +kernel
theorem dX8_modulus_0 : decode cX8_modulus 0 = .ok (.aload_n 0, 1) := by decide +kernel
theorem dX8_modulus_1 : decode cX8_modulus 1 = .ok (.getfield 37, 3) := by decide +kernel
theorem dX8_modulus_4 : decode cX8_modulus 4 = .ok (.ireturn, 1) := by decide +kernel
theorem dX8_cellCount_0 : decode cX8_cellCount 0 = .ok (.aload_n 0, 1) := by decide +kernel
theorem dX8_cellCount_1 : decode cX8_cellCount 1 = .ok (.getfield 30, 3) := by decide +kernel
theorem dX8_cellCount_4 : decode cX8_cellCount 4 = .ok (.aload_n 0, 1) := by decide +kernel
theorem dX8_cellCount_5 : decode cX8_cellCount 5 = .ok (.getfield 30, 3) := by decide +kernel
theorem dX8_cellCount_8 : decode cX8_cellCount 8 = .ok (.imul, 1) := by decide +kernel
theorem dX8_cellCount_9 : decode cX8_cellCount 9 = .ok (.ireturn, 1) := by decide +kernel
theorem dX8_has_0 : decode cX8_has 0 = .ok (.iload_n 1, 1) := by decide +kernel
theorem dX8_has_1 : decode cX8_has 1 = .ok (.ifCond .lt 15, 3) := by decide +kernel
theorem dX8_has_4 : decode cX8_has 4 = .ok (.iload_n 1, 1) := by decide +kernel
theorem dX8_has_5 : decode cX8_has 5 = .ok (.aload_n 0, 1) := by decide +kernel
theorem dX8_has_6 : decode cX8_has 6 = .ok (.getfield 40, 3) := by decide +kernel
theorem dX8_has_9 : decode cX8_has 9 = .ok (.if_icmp .ge 7, 3) := by decide +kernel
theorem dX8_has_12 : decode cX8_has 12 = .ok (.iconst 1, 1) := by decide +kernel
theorem dX8_has_13 : decode cX8_has 13 = .ok (.goto 4, 3) := by decide +kernel
theorem dX8_has_16 : decode cX8_has 16 = .ok (.iconst 0, 1) := by decide +kernel
theorem dX8_has_17 : decode cX8_has 17 = .ok (.ireturn, 1) := by decide +kernel
theorem dX8_tableOf_0 : decode cX8_tableOf 0 = .ok (.aload_n 0, 1) := by decide +kernel
theorem dX8_tableOf_1 : decode cX8_tableOf 1 = .ok (.getfield 11, 3) := by decide +kernel
theorem dX8_tableOf_4 : decode cX8_tableOf 4 = .ok (.iload_n 1, 1) := by decide +kernel
theorem dX8_tableOf_5 : decode cX8_tableOf 5 = .ok (.aaload, 1) := by decide +kernel
theorem dX8_tableOf_6 : decode cX8_tableOf 6 = .ok (.areturn, 1) := by decide +kernel
theorem dX8_rowOf_0 : decode cX8_rowOf 0 = .ok (.aload_n 0, 1) := by decide +kernel
theorem dX8_rowOf_1 : decode cX8_rowOf 1 = .ok (.getfield 19, 3) := by decide +kernel
theorem dX8_rowOf_4 : decode cX8_rowOf 4 = .ok (.iload_n 1, 1) := by decide +kernel
theorem dX8_rowOf_5 : decode cX8_rowOf 5 = .ok (.aaload, 1) := by decide +kernel
theorem dX8_rowOf_6 : decode cX8_rowOf 6 = .ok (.areturn, 1) := by decide +kernel
theorem dX8_isPlace_0 : decode cX8_isPlace 0 = .ok (.iload_n 1, 1) := by decide +kernel
theorem dX8_isPlace_1 : decode cX8_isPlace 1 = .ok (.ifCond .lt 27, 3) := by decide +kernel
theorem dX8_isPlace_4 : decode cX8_isPlace 4 = .ok (.iload_n 1, 1) := by decide +kernel
theorem dX8_isPlace_5 : decode cX8_isPlace 5 = .ok (.aload_n 0, 1) := by decide +kernel
theorem dX8_isPlace_6 : decode cX8_isPlace 6 = .ok (.getfield 30, 3) := by decide +kernel
theorem dX8_isPlace_9 : decode cX8_isPlace 9 = .ok (.if_icmp .ge 19, 3) := by decide +kernel
theorem dX8_isPlace_12 : decode cX8_isPlace 12 = .ok (.iload_n 2, 1) := by decide +kernel
theorem dX8_isPlace_13 : decode cX8_isPlace 13 = .ok (.ifCond .lt 15, 3) := by decide +kernel
theorem dX8_isPlace_16 : decode cX8_isPlace 16 = .ok (.iload_n 2, 1) := by decide +kernel
theorem dX8_isPlace_17 : decode cX8_isPlace 17 = .ok (.aload_n 0, 1) := by decide +kernel
theorem dX8_isPlace_18 : decode cX8_isPlace 18 = .ok (.getfield 30, 3) := by decide +kernel
theorem dX8_isPlace_21 : decode cX8_isPlace 21 = .ok (.if_icmp .ge 7, 3) := by decide +kernel
theorem dX8_isPlace_24 : decode cX8_isPlace 24 = .ok (.iconst 1, 1) := by decide +kernel
theorem dX8_isPlace_25 : decode cX8_isPlace 25 = .ok (.goto 4, 3) := by decide +kernel
theorem dX8_isPlace_28 : decode cX8_isPlace 28 = .ok (.iconst 0, 1) := by decide +kernel
theorem dX8_isPlace_29 : decode cX8_isPlace 29 = .ok (.ireturn, 1) := by decide +kernel
theorem dX8_cellOf_0 : decode cX8_cellOf 0 = .ok (.iload_n 1, 1) := by decide +kernel
theorem dX8_cellOf_1 : decode cX8_cellOf 1 = .ok (.aload_n 0, 1) := by decide +kernel
theorem dX8_cellOf_2 : decode cX8_cellOf 2 = .ok (.getfield 30, 3) := by decide +kernel
theorem dX8_cellOf_5 : decode cX8_cellOf 5 = .ok (.imul, 1) := by decide +kernel
theorem dX8_cellOf_6 : decode cX8_cellOf 6 = .ok (.iload_n 2, 1) := by decide +kernel
theorem dX8_cellOf_7 : decode cX8_cellOf 7 = .ok (.iadd, 1) := by decide +kernel
theorem dX8_cellOf_8 : decode cX8_cellOf 8 = .ok (.ireturn, 1) := by decide +kernel
theorem dX8_add_0 : decode cX8_add 0 = .ok (.aload_n 0, 1) := by decide +kernel
theorem dX8_add_1 : decode cX8_add 1 = .ok (.getfield 40, 3) := by decide +kernel
theorem dX8_add_4 : decode cX8_add 4 = .ok (.istore_n 3, 1) := by decide +kernel
theorem dX8_add_5 : decode cX8_add 5 = .ok (.aload_n 1, 1) := by decide +kernel
theorem dX8_add_6 : decode cX8_add 6 = .ok (.iload_n 2, 1) := by decide +kernel
theorem dX8_add_7 : decode cX8_add 7 = .ok (.iload_n 2, 1) := by decide +kernel
theorem dX8_add_8 : decode cX8_add 8 = .ok (.aload_n 0, 1) := by decide +kernel
theorem dX8_add_9 : decode cX8_add 9 = .ok (.getfield 30, 3) := by decide +kernel
theorem dX8_add_12 : decode cX8_add 12 = .ok (.aload_n 0, 1) := by decide +kernel
theorem dX8_add_13 : decode cX8_add 13 = .ok (.getfield 30, 3) := by decide +kernel
theorem dX8_add_16 : decode cX8_add 16 = .ok (.imul, 1) := by decide +kernel
theorem dX8_add_17 : decode cX8_add 17 = .ok (.iadd, 1) := by decide +kernel
theorem dX8_add_18 : decode cX8_add 18 = .ok (.invokestatic 43, 3) := by decide +kernel
theorem dX8_add_21 : decode cX8_add 21 = .ok (.astore 4, 2) := by decide +kernel
theorem dX8_add_23 : decode cX8_add 23 = .ok (.iconst 0, 1) := by decide +kernel
theorem dX8_add_24 : decode cX8_add 24 = .ok (.istore 5, 2) := by decide +kernel
theorem dX8_add_26 : decode cX8_add 26 = .ok (.iload 5, 2) := by decide +kernel
theorem dX8_add_28 : decode cX8_add 28 = .ok (.aload_n 0, 1) := by decide +kernel
theorem dX8_add_29 : decode cX8_add 29 = .ok (.getfield 30, 3) := by decide +kernel
theorem dX8_add_32 : decode cX8_add 32 = .ok (.aload_n 0, 1) := by decide +kernel
theorem dX8_add_33 : decode cX8_add 33 = .ok (.getfield 30, 3) := by decide +kernel
theorem dX8_add_36 : decode cX8_add 36 = .ok (.imul, 1) := by decide +kernel
theorem dX8_add_37 : decode cX8_add 37 = .ok (.if_icmp .ge 28, 3) := by decide +kernel
theorem dX8_add_40 : decode cX8_add 40 = .ok (.aload_n 0, 1) := by decide +kernel
theorem dX8_add_41 : decode cX8_add 41 = .ok (.getfield 19, 3) := by decide +kernel
theorem dX8_add_44 : decode cX8_add 44 = .ok (.iload_n 3, 1) := by decide +kernel
theorem dX8_add_45 : decode cX8_add 45 = .ok (.aaload, 1) := by decide +kernel
theorem dX8_add_46 : decode cX8_add 46 = .ok (.iload 5, 2) := by decide +kernel
theorem dX8_add_48 : decode cX8_add 48 = .ok (.aload_n 0, 1) := by decide +kernel
theorem dX8_add_49 : decode cX8_add 49 = .ok (.aload 4, 2) := by decide +kernel
theorem dX8_add_51 : decode cX8_add 51 = .ok (.iload 5, 2) := by decide +kernel
theorem dX8_add_53 : decode cX8_add 53 = .ok (.iaload, 1) := by decide +kernel
theorem dX8_add_54 : decode cX8_add 54 = .ok (.i2l, 1) := by decide +kernel
theorem dX8_add_55 : decode cX8_add 55 = .ok (.invokevirtual 49, 3) := by decide +kernel
theorem dX8_add_58 : decode cX8_add 58 = .ok (.lastore, 1) := by decide +kernel
theorem dX8_add_59 : decode cX8_add 59 = .ok (.iinc 5 1, 3) := by decide +kernel
theorem dX8_add_62 : decode cX8_add 62 = .ok (.goto (-36), 3) := by decide +kernel
theorem dX8_add_65 : decode cX8_add 65 = .ok (.aload_n 0, 1) := by decide +kernel
theorem dX8_add_66 : decode cX8_add 66 = .ok (.getfield 11, 3) := by decide +kernel
theorem dX8_add_69 : decode cX8_add 69 = .ok (.iload_n 3, 1) := by decide +kernel
theorem dX8_add_70 : decode cX8_add 70 = .ok (.aload_n 0, 1) := by decide +kernel
theorem dX8_add_71 : decode cX8_add 71 = .ok (.iload_n 3, 1) := by decide +kernel
theorem dX8_add_72 : decode cX8_add 72 = .ok (.aload 4, 2) := by decide +kernel
theorem dX8_add_74 : decode cX8_add 74 = .ok (.invokevirtual 53, 3) := by decide +kernel
theorem dX8_add_77 : decode cX8_add 77 = .ok (.aastore, 1) := by decide +kernel
theorem dX8_add_78 : decode cX8_add 78 = .ok (.aload_n 0, 1) := by decide +kernel
theorem dX8_add_79 : decode cX8_add 79 = .ok (.dup, 1) := by decide +kernel
theorem dX8_add_80 : decode cX8_add 80 = .ok (.getfield 40, 3) := by decide +kernel
theorem dX8_add_83 : decode cX8_add 83 = .ok (.iconst 1, 1) := by decide +kernel
theorem dX8_add_84 : decode cX8_add 84 = .ok (.iadd, 1) := by decide +kernel
theorem dX8_add_85 : decode cX8_add 85 = .ok (.putfield 40, 3) := by decide +kernel
theorem dX8_add_88 : decode cX8_add 88 = .ok (.iload_n 3, 1) := by decide +kernel
theorem dX8_add_89 : decode cX8_add 89 = .ok (.ireturn, 1) := by decide +kernel
theorem dX8_makeTable_0 : decode cX8_makeTable 0 = .ok (.aload_n 0, 1) := by decide +kernel
theorem dX8_makeTable_1 : decode cX8_makeTable 1 = .ok (.aload_n 2, 1) := by decide +kernel
theorem dX8_makeTable_2 : decode cX8_makeTable 2 = .ok (.invokevirtual 57, 3) := by decide +kernel
theorem dX8_makeTable_5 : decode cX8_makeTable 5 = .ok (.ifCond .eq 17, 3) := by decide +kernel
theorem dX8_makeTable_8 : decode cX8_makeTable 8 = .ok (.new 61, 3) := by decide +kernel
theorem dX8_makeTable_11 : decode cX8_makeTable 11 = .ok (.dup, 1) := by decide +kernel
theorem dX8_makeTable_12 : decode cX8_makeTable 12 = .ok (.iload_n 1, 1) := by decide +kernel
theorem dX8_makeTable_13 : decode cX8_makeTable 13 = .ok (.aload_n 0, 1) := by decide +kernel
theorem dX8_makeTable_14 : decode cX8_makeTable 14 = .ok (.getfield 30, 3) := by decide +kernel
theorem dX8_makeTable_17 : decode cX8_makeTable 17 = .ok (.aload_n 2, 1) := by decide +kernel
theorem dX8_makeTable_18 : decode cX8_makeTable 18 = .ok (.invokespecial 63, 3) := by decide +kernel
theorem dX8_makeTable_21 : decode cX8_makeTable 21 = .ok (.areturn, 1) := by decide +kernel
theorem dX8_makeTable_22 : decode cX8_makeTable 22 = .ok (.aload_n 0, 1) := by decide +kernel
theorem dX8_makeTable_23 : decode cX8_makeTable 23 = .ok (.aload_n 2, 1) := by decide +kernel
theorem dX8_makeTable_24 : decode cX8_makeTable 24 = .ok (.invokevirtual 66, 3) := by decide +kernel
theorem dX8_makeTable_27 : decode cX8_makeTable 27 = .ok (.ifCond .eq 19, 3) := by decide +kernel
theorem dX8_makeTable_30 : decode cX8_makeTable 30 = .ok (.new 69, 3) := by decide +kernel
theorem dX8_makeTable_33 : decode cX8_makeTable 33 = .ok (.dup, 1) := by decide +kernel
theorem dX8_makeTable_34 : decode cX8_makeTable 34 = .ok (.iload_n 1, 1) := by decide +kernel
theorem dX8_makeTable_35 : decode cX8_makeTable 35 = .ok (.aload_n 0, 1) := by decide +kernel
theorem dX8_makeTable_36 : decode cX8_makeTable 36 = .ok (.getfield 30, 3) := by decide +kernel
theorem dX8_makeTable_39 : decode cX8_makeTable 39 = .ok (.aload_n 2, 1) := by decide +kernel
theorem dX8_makeTable_40 : decode cX8_makeTable 40 = .ok (.invokespecial 71, 3) := by decide +kernel
theorem dX8_makeTable_43 : decode cX8_makeTable 43 = .ok (.goto 16, 3) := by decide +kernel
theorem dX8_makeTable_46 : decode cX8_makeTable 46 = .ok (.new 9, 3) := by decide +kernel
theorem dX8_makeTable_49 : decode cX8_makeTable 49 = .ok (.dup, 1) := by decide +kernel
theorem dX8_makeTable_50 : decode cX8_makeTable 50 = .ok (.iload_n 1, 1) := by decide +kernel
theorem dX8_makeTable_51 : decode cX8_makeTable 51 = .ok (.aload_n 0, 1) := by decide +kernel
theorem dX8_makeTable_52 : decode cX8_makeTable 52 = .ok (.getfield 30, 3) := by decide +kernel
theorem dX8_makeTable_55 : decode cX8_makeTable 55 = .ok (.aload_n 2, 1) := by decide +kernel
theorem dX8_makeTable_56 : decode cX8_makeTable 56 = .ok (.invokespecial 72, 3) := by decide +kernel
theorem dX8_makeTable_59 : decode cX8_makeTable 59 = .ok (.areturn, 1) := by decide +kernel
theorem dX8_isEven_0 : decode cX8_isEven 0 = .ok (.iconst 0, 1) := by decide +kernel
theorem dX8_isEven_1 : decode cX8_isEven 1 = .ok (.istore_n 2, 1) := by decide +kernel
theorem dX8_isEven_2 : decode cX8_isEven 2 = .ok (.iload_n 2, 1) := by decide +kernel
theorem dX8_isEven_3 : decode cX8_isEven 3 = .ok (.aload_n 0, 1) := by decide +kernel
theorem dX8_isEven_4 : decode cX8_isEven 4 = .ok (.getfield 30, 3) := by decide +kernel
theorem dX8_isEven_7 : decode cX8_isEven 7 = .ok (.aload_n 0, 1) := by decide +kernel
theorem dX8_isEven_8 : decode cX8_isEven 8 = .ok (.getfield 30, 3) := by decide +kernel
theorem dX8_isEven_11 : decode cX8_isEven 11 = .ok (.imul, 1) := by decide +kernel
theorem dX8_isEven_12 : decode cX8_isEven 12 = .ok (.if_icmp .ge 17, 3) := by decide +kernel
theorem dX8_isEven_15 : decode cX8_isEven 15 = .ok (.aload_n 1, 1) := by decide +kernel
theorem dX8_isEven_16 : decode cX8_isEven 16 = .ok (.iload_n 2, 1) := by decide +kernel
theorem dX8_isEven_17 : decode cX8_isEven 17 = .ok (.iaload, 1) := by decide +kernel
theorem dX8_isEven_18 : decode cX8_isEven 18 = .ok (.ifCond .ge 5, 3) := by decide +kernel
theorem dX8_isEven_21 : decode cX8_isEven 21 = .ok (.iconst 0, 1) := by decide +kernel
theorem dX8_isEven_22 : decode cX8_isEven 22 = .ok (.ireturn, 1) := by decide +kernel
theorem dX8_isEven_23 : decode cX8_isEven 23 = .ok (.iinc 2 1, 3) := by decide +kernel
theorem dX8_isEven_26 : decode cX8_isEven 26 = .ok (.goto (-24), 3) := by decide +kernel
theorem dX8_isEven_29 : decode cX8_isEven 29 = .ok (.iconst 1, 1) := by decide +kernel
theorem dX8_isEven_30 : decode cX8_isEven 30 = .ok (.ireturn, 1) := by decide +kernel
theorem dX8_isShuffle_0 : decode cX8_isShuffle 0 = .ok (.aload_n 0, 1) := by decide +kernel
theorem dX8_isShuffle_1 : decode cX8_isShuffle 1 = .ok (.aload_n 1, 1) := by decide +kernel
theorem dX8_isShuffle_2 : decode cX8_isShuffle 2 = .ok (.invokevirtual 66, 3) := by decide +kernel
theorem dX8_isShuffle_5 : decode cX8_isShuffle 5 = .ok (.ifCond .ne 5, 3) := by decide +kernel
theorem dX8_isShuffle_8 : decode cX8_isShuffle 8 = .ok (.iconst 0, 1) := by decide +kernel
theorem dX8_isShuffle_9 : decode cX8_isShuffle 9 = .ok (.ireturn, 1) := by decide +kernel
theorem dX8_isShuffle_10 : decode cX8_isShuffle 10 = .ok (.iconst 0, 1) := by decide +kernel
theorem dX8_isShuffle_11 : decode cX8_isShuffle 11 = .ok (.istore_n 2, 1) := by decide +kernel
theorem dX8_isShuffle_12 : decode cX8_isShuffle 12 = .ok (.iload_n 2, 1) := by decide +kernel
theorem dX8_isShuffle_13 : decode cX8_isShuffle 13 = .ok (.aload_n 0, 1) := by decide +kernel
theorem dX8_isShuffle_14 : decode cX8_isShuffle 14 = .ok (.getfield 30, 3) := by decide +kernel
theorem dX8_isShuffle_17 : decode cX8_isShuffle 17 = .ok (.if_icmp .ge 75, 3) := by decide +kernel
theorem dX8_isShuffle_20 : decode cX8_isShuffle 20 = .ok (.iconst 0, 1) := by decide +kernel
theorem dX8_isShuffle_21 : decode cX8_isShuffle 21 = .ok (.istore_n 3, 1) := by decide +kernel
theorem dX8_isShuffle_22 : decode cX8_isShuffle 22 = .ok (.iconst 0, 1) := by decide +kernel
theorem dX8_isShuffle_23 : decode cX8_isShuffle 23 = .ok (.istore 4, 2) := by decide +kernel
theorem dX8_isShuffle_25 : decode cX8_isShuffle 25 = .ok (.iconst 0, 1) := by decide +kernel
theorem dX8_isShuffle_26 : decode cX8_isShuffle 26 = .ok (.istore 5, 2) := by decide +kernel
theorem dX8_isShuffle_28 : decode cX8_isShuffle 28 = .ok (.iload 5, 2) := by decide +kernel
theorem dX8_isShuffle_30 : decode cX8_isShuffle 30 = .ok (.aload_n 0, 1) := by decide +kernel
theorem dX8_isShuffle_31 : decode cX8_isShuffle 31 = .ok (.getfield 30, 3) := by decide +kernel
theorem dX8_isShuffle_34 : decode cX8_isShuffle 34 = .ok (.if_icmp .ge 39, 3) := by decide +kernel
theorem dX8_isShuffle_37 : decode cX8_isShuffle 37 = .ok (.iload_n 3, 1) := by decide +kernel
theorem dX8_isShuffle_38 : decode cX8_isShuffle 38 = .ok (.aload_n 1, 1) := by decide +kernel
theorem dX8_isShuffle_39 : decode cX8_isShuffle 39 = .ok (.iload_n 2, 1) := by decide +kernel
theorem dX8_isShuffle_40 : decode cX8_isShuffle 40 = .ok (.aload_n 0, 1) := by decide +kernel
theorem dX8_isShuffle_41 : decode cX8_isShuffle 41 = .ok (.getfield 30, 3) := by decide +kernel
theorem dX8_isShuffle_44 : decode cX8_isShuffle 44 = .ok (.imul, 1) := by decide +kernel
theorem dX8_isShuffle_45 : decode cX8_isShuffle 45 = .ok (.iload 5, 2) := by decide +kernel
theorem dX8_isShuffle_47 : decode cX8_isShuffle 47 = .ok (.iadd, 1) := by decide +kernel
theorem dX8_isShuffle_48 : decode cX8_isShuffle 48 = .ok (.iaload, 1) := by decide +kernel
theorem dX8_isShuffle_49 : decode cX8_isShuffle 49 = .ok (.iadd, 1) := by decide +kernel
theorem dX8_isShuffle_50 : decode cX8_isShuffle 50 = .ok (.istore_n 3, 1) := by decide +kernel
theorem dX8_isShuffle_51 : decode cX8_isShuffle 51 = .ok (.iload 4, 2) := by decide +kernel
theorem dX8_isShuffle_53 : decode cX8_isShuffle 53 = .ok (.aload_n 1, 1) := by decide +kernel
theorem dX8_isShuffle_54 : decode cX8_isShuffle 54 = .ok (.iload 5, 2) := by decide +kernel
theorem dX8_isShuffle_56 : decode cX8_isShuffle 56 = .ok (.aload_n 0, 1) := by decide +kernel
theorem dX8_isShuffle_57 : decode cX8_isShuffle 57 = .ok (.getfield 30, 3) := by decide +kernel
theorem dX8_isShuffle_60 : decode cX8_isShuffle 60 = .ok (.imul, 1) := by decide +kernel
theorem dX8_isShuffle_61 : decode cX8_isShuffle 61 = .ok (.iload_n 2, 1) := by decide +kernel
theorem dX8_isShuffle_62 : decode cX8_isShuffle 62 = .ok (.iadd, 1) := by decide +kernel
theorem dX8_isShuffle_63 : decode cX8_isShuffle 63 = .ok (.iaload, 1) := by decide +kernel
theorem dX8_isShuffle_64 : decode cX8_isShuffle 64 = .ok (.iadd, 1) := by decide +kernel
theorem dX8_isShuffle_65 : decode cX8_isShuffle 65 = .ok (.istore 4, 2) := by decide +kernel
theorem dX8_isShuffle_67 : decode cX8_isShuffle 67 = .ok (.iinc 5 1, 3) := by decide +kernel
theorem dX8_isShuffle_70 : decode cX8_isShuffle 70 = .ok (.goto (-42), 3) := by decide +kernel
theorem dX8_isShuffle_73 : decode cX8_isShuffle 73 = .ok (.iload_n 3, 1) := by decide +kernel
theorem dX8_isShuffle_74 : decode cX8_isShuffle 74 = .ok (.iconst 1, 1) := by decide +kernel
theorem dX8_isShuffle_75 : decode cX8_isShuffle 75 = .ok (.if_icmp .ne 9, 3) := by decide +kernel
theorem dX8_isShuffle_78 : decode cX8_isShuffle 78 = .ok (.iload 4, 2) := by decide +kernel
theorem dX8_isShuffle_80 : decode cX8_isShuffle 80 = .ok (.iconst 1, 1) := by decide +kernel
theorem dX8_isShuffle_81 : decode cX8_isShuffle 81 = .ok (.if_icmp .eq 5, 3) := by decide +kernel
theorem dX8_isShuffle_84 : decode cX8_isShuffle 84 = .ok (.iconst 0, 1) := by decide +kernel
theorem dX8_isShuffle_85 : decode cX8_isShuffle 85 = .ok (.ireturn, 1) := by decide +kernel
theorem dX8_isShuffle_86 : decode cX8_isShuffle 86 = .ok (.iinc 2 1, 3) := by decide +kernel
theorem dX8_isShuffle_89 : decode cX8_isShuffle 89 = .ok (.goto (-77), 3) := by decide +kernel
theorem dX8_isShuffle_92 : decode cX8_isShuffle 92 = .ok (.iconst 1, 1) := by decide +kernel
theorem dX8_isShuffle_93 : decode cX8_isShuffle 93 = .ok (.ireturn, 1) := by decide +kernel
theorem dX8_mayFollow_0 : decode cX8_mayFollow 0 = .ok (.aload_n 0, 1) := by decide +kernel
theorem dX8_mayFollow_1 : decode cX8_mayFollow 1 = .ok (.getfield 22, 3) := by decide +kernel
theorem dX8_mayFollow_4 : decode cX8_mayFollow 4 = .ok (.iload_n 1, 1) := by decide +kernel
theorem dX8_mayFollow_5 : decode cX8_mayFollow 5 = .ok (.bipush 6, 2) := by decide +kernel
theorem dX8_mayFollow_7 : decode cX8_mayFollow 7 = .ok (.imul, 1) := by decide +kernel
theorem dX8_mayFollow_8 : decode cX8_mayFollow 8 = .ok (.iload_n 2, 1) := by decide +kernel
theorem dX8_mayFollow_9 : decode cX8_mayFollow 9 = .ok (.iadd, 1) := by decide +kernel
theorem dX8_mayFollow_10 : decode cX8_mayFollow 10 = .ok (.baload, 1) := by decide +kernel
theorem dX8_mayFollow_11 : decode cX8_mayFollow 11 = .ok (.ireturn, 1) := by decide +kernel
theorem dX8_allow_0 : decode cX8_allow 0 = .ok (.aload_n 0, 1) := by decide +kernel
theorem dX8_allow_1 : decode cX8_allow 1 = .ok (.getfield 22, 3) := by decide +kernel
theorem dX8_allow_4 : decode cX8_allow 4 = .ok (.iload_n 1, 1) := by decide +kernel
theorem dX8_allow_5 : decode cX8_allow 5 = .ok (.bipush 6, 2) := by decide +kernel
theorem dX8_allow_7 : decode cX8_allow 7 = .ok (.imul, 1) := by decide +kernel
theorem dX8_allow_8 : decode cX8_allow 8 = .ok (.iload_n 2, 1) := by decide +kernel
theorem dX8_allow_9 : decode cX8_allow 9 = .ok (.iadd, 1) := by decide +kernel
theorem dX8_allow_10 : decode cX8_allow 10 = .ok (.iload_n 3, 1) := by decide +kernel
theorem dX8_allow_11 : decode cX8_allow 11 = .ok (.bastore, 1) := by decide +kernel
theorem dX8_allow_12 : decode cX8_allow 12 = .ok (.return_, 1) := by decide +kernel
theorem dX8_countAllowedPairs_0 : decode cX8_countAllowedPairs 0 = .ok (.iconst 0, 1) := by decide +kernel
theorem dX8_countAllowedPairs_1 : decode cX8_countAllowedPairs 1 = .ok (.istore_n 1, 1) := by decide +kernel
theorem dX8_countAllowedPairs_2 : decode cX8_countAllowedPairs 2 = .ok (.iconst 0, 1) := by decide +kernel
theorem dX8_countAllowedPairs_3 : decode cX8_countAllowedPairs 3 = .ok (.istore_n 2, 1) := by decide +kernel
theorem dX8_countAllowedPairs_4 : decode cX8_countAllowedPairs 4 = .ok (.iload_n 2, 1) := by decide +kernel
theorem dX8_countAllowedPairs_5 : decode cX8_countAllowedPairs 5 = .ok (.aload_n 0, 1) := by decide +kernel
theorem dX8_countAllowedPairs_6 : decode cX8_countAllowedPairs 6 = .ok (.getfield 40, 3) := by decide +kernel
theorem dX8_countAllowedPairs_9 : decode cX8_countAllowedPairs 9 = .ok (.if_icmp .ge 37, 3) := by decide +kernel
theorem dX8_countAllowedPairs_12 : decode cX8_countAllowedPairs 12 = .ok (.iconst 0, 1) := by decide +kernel
theorem dX8_countAllowedPairs_13 : decode cX8_countAllowedPairs 13 = .ok (.istore_n 3, 1) := by decide +kernel
theorem dX8_countAllowedPairs_14 : decode cX8_countAllowedPairs 14 = .ok (.iload_n 3, 1) := by decide +kernel
theorem dX8_countAllowedPairs_15 : decode cX8_countAllowedPairs 15 = .ok (.aload_n 0, 1) := by decide +kernel
theorem dX8_countAllowedPairs_16 : decode cX8_countAllowedPairs 16 = .ok (.getfield 40, 3) := by decide +kernel
theorem dX8_countAllowedPairs_19 : decode cX8_countAllowedPairs 19 = .ok (.if_icmp .ge 21, 3) := by decide +kernel
theorem dX8_countAllowedPairs_22 : decode cX8_countAllowedPairs 22 = .ok (.aload_n 0, 1) := by decide +kernel
theorem dX8_countAllowedPairs_23 : decode cX8_countAllowedPairs 23 = .ok (.iload_n 2, 1) := by decide +kernel
theorem dX8_countAllowedPairs_24 : decode cX8_countAllowedPairs 24 = .ok (.iload_n 3, 1) := by decide +kernel
theorem dX8_countAllowedPairs_25 : decode cX8_countAllowedPairs 25 = .ok (.invokevirtual 73, 3) := by decide +kernel
theorem dX8_countAllowedPairs_28 : decode cX8_countAllowedPairs 28 = .ok (.ifCond .eq 6, 3) := by decide +kernel
theorem dX8_countAllowedPairs_31 : decode cX8_countAllowedPairs 31 = .ok (.iinc 1 1, 3) := by decide +kernel
theorem dX8_countAllowedPairs_34 : decode cX8_countAllowedPairs 34 = .ok (.iinc 3 1, 3) := by decide +kernel
theorem dX8_countAllowedPairs_37 : decode cX8_countAllowedPairs 37 = .ok (.goto (-23), 3) := by decide +kernel
theorem dX8_countAllowedPairs_40 : decode cX8_countAllowedPairs 40 = .ok (.iinc 2 1, 3) := by decide +kernel
theorem dX8_countAllowedPairs_43 : decode cX8_countAllowedPairs 43 = .ok (.goto (-39), 3) := by decide +kernel
theorem dX8_countAllowedPairs_46 : decode cX8_countAllowedPairs 46 = .ok (.iload_n 1, 1) := by decide +kernel
theorem dX8_countAllowedPairs_47 : decode cX8_countAllowedPairs 47 = .ok (.ireturn, 1) := by decide +kernel
theorem dX8_isAllowed_0 : decode cX8_isAllowed 0 = .ok (.iconst 1, 1) := by decide +kernel
theorem dX8_isAllowed_1 : decode cX8_isAllowed 1 = .ok (.istore_n 3, 1) := by decide +kernel
theorem dX8_isAllowed_2 : decode cX8_isAllowed 2 = .ok (.iload_n 3, 1) := by decide +kernel
theorem dX8_isAllowed_3 : decode cX8_isAllowed 3 = .ok (.iload_n 2, 1) := by decide +kernel
theorem dX8_isAllowed_4 : decode cX8_isAllowed 4 = .ok (.if_icmp .ge 26, 3) := by decide +kernel
theorem dX8_isAllowed_7 : decode cX8_isAllowed 7 = .ok (.aload_n 0, 1) := by decide +kernel
theorem dX8_isAllowed_8 : decode cX8_isAllowed 8 = .ok (.aload_n 1, 1) := by decide +kernel
theorem dX8_isAllowed_9 : decode cX8_isAllowed 9 = .ok (.iload_n 3, 1) := by decide +kernel
theorem dX8_isAllowed_10 : decode cX8_isAllowed 10 = .ok (.iconst 1, 1) := by decide +kernel
theorem dX8_isAllowed_11 : decode cX8_isAllowed 11 = .ok (.isub, 1) := by decide +kernel
theorem dX8_isAllowed_12 : decode cX8_isAllowed 12 = .ok (.iaload, 1) := by decide +kernel
theorem dX8_isAllowed_13 : decode cX8_isAllowed 13 = .ok (.aload_n 1, 1) := by decide +kernel
theorem dX8_isAllowed_14 : decode cX8_isAllowed 14 = .ok (.iload_n 3, 1) := by decide +kernel
theorem dX8_isAllowed_15 : decode cX8_isAllowed 15 = .ok (.iaload, 1) := by decide +kernel
theorem dX8_isAllowed_16 : decode cX8_isAllowed 16 = .ok (.invokevirtual 73, 3) := by decide +kernel
theorem dX8_isAllowed_19 : decode cX8_isAllowed 19 = .ok (.ifCond .ne 5, 3) := by decide +kernel
theorem dX8_isAllowed_22 : decode cX8_isAllowed 22 = .ok (.iconst 0, 1) := by decide +kernel
theorem dX8_isAllowed_23 : decode cX8_isAllowed 23 = .ok (.ireturn, 1) := by decide +kernel
theorem dX8_isAllowed_24 : decode cX8_isAllowed 24 = .ok (.iinc 3 1, 3) := by decide +kernel
theorem dX8_isAllowed_27 : decode cX8_isAllowed 27 = .ok (.goto (-25), 3) := by decide +kernel
theorem dX8_isAllowed_30 : decode cX8_isAllowed 30 = .ok (.iconst 1, 1) := by decide +kernel
theorem dX8_isAllowed_31 : decode cX8_isAllowed 31 = .ok (.ireturn, 1) := by decide +kernel
theorem dX8_isTurnable_0 : decode cX8_isTurnable 0 = .ok (.aload_n 0, 1) := by decide +kernel
theorem dX8_isTurnable_1 : decode cX8_isTurnable 1 = .ok (.aload_n 1, 1) := by decide +kernel
theorem dX8_isTurnable_2 : decode cX8_isTurnable 2 = .ok (.iload_n 2, 1) := by decide +kernel
theorem dX8_isTurnable_3 : decode cX8_isTurnable 3 = .ok (.iconst 1, 1) := by decide +kernel
theorem dX8_isTurnable_4 : decode cX8_isTurnable 4 = .ok (.isub, 1) := by decide +kernel
theorem dX8_isTurnable_5 : decode cX8_isTurnable 5 = .ok (.iaload, 1) := by decide +kernel
theorem dX8_isTurnable_6 : decode cX8_isTurnable 6 = .ok (.aload_n 1, 1) := by decide +kernel
theorem dX8_isTurnable_7 : decode cX8_isTurnable 7 = .ok (.iconst 0, 1) := by decide +kernel
theorem dX8_isTurnable_8 : decode cX8_isTurnable 8 = .ok (.iaload, 1) := by decide +kernel
theorem dX8_isTurnable_9 : decode cX8_isTurnable 9 = .ok (.invokevirtual 73, 3) := by decide +kernel
theorem dX8_isTurnable_12 : decode cX8_isTurnable 12 = .ok (.ireturn, 1) := by decide +kernel
theorem dX8_restOf_0 : decode cX8_restOf 0 = .ok (.aload_n 0, 1) := by decide +kernel
theorem dX8_restOf_1 : decode cX8_restOf 1 = .ok (.getfield 37, 3) := by decide +kernel
theorem dX8_restOf_4 : decode cX8_restOf 4 = .ok (.ifCond .gt 5, 3) := by decide +kernel
theorem dX8_restOf_7 : decode cX8_restOf 7 = .ok (.lload_n 1, 1) := by decide +kernel
theorem dX8_restOf_8 : decode cX8_restOf 8 = .ok (.lreturn, 1) := by decide +kernel
theorem dX8_restOf_9 : decode cX8_restOf 9 = .ok (.lload_n 1, 1) := by decide +kernel
theorem dX8_restOf_10 : decode cX8_restOf 10 = .ok (.aload_n 0, 1) := by decide +kernel
theorem dX8_restOf_11 : decode cX8_restOf 11 = .ok (.getfield 37, 3) := by decide +kernel
theorem dX8_restOf_14 : decode cX8_restOf 14 = .ok (.i2l, 1) := by decide +kernel
theorem dX8_restOf_15 : decode cX8_restOf 15 = .ok (.lrem, 1) := by decide +kernel
theorem dX8_restOf_16 : decode cX8_restOf 16 = .ok (.lstore_n 3, 1) := by decide +kernel
theorem dX8_restOf_17 : decode cX8_restOf 17 = .ok (.lload_n 3, 1) := by decide +kernel
theorem dX8_restOf_18 : decode cX8_restOf 18 = .ok (.lconst 0, 1) := by decide +kernel
theorem dX8_restOf_19 : decode cX8_restOf 19 = .ok (.lcmp, 1) := by decide +kernel
theorem dX8_restOf_20 : decode cX8_restOf 20 = .ok (.ifCond .ge 13, 3) := by decide +kernel
theorem dX8_restOf_23 : decode cX8_restOf 23 = .ok (.lload_n 3, 1) := by decide +kernel
theorem dX8_restOf_24 : decode cX8_restOf 24 = .ok (.aload_n 0, 1) := by decide +kernel
theorem dX8_restOf_25 : decode cX8_restOf 25 = .ok (.getfield 37, 3) := by decide +kernel
theorem dX8_restOf_28 : decode cX8_restOf 28 = .ok (.i2l, 1) := by decide +kernel
theorem dX8_restOf_29 : decode cX8_restOf 29 = .ok (.ladd, 1) := by decide +kernel
theorem dX8_restOf_30 : decode cX8_restOf 30 = .ok (.goto 4, 3) := by decide +kernel
theorem dX8_restOf_33 : decode cX8_restOf 33 = .ok (.lload_n 3, 1) := by decide +kernel
theorem dX8_restOf_34 : decode cX8_restOf 34 = .ok (.lreturn, 1) := by decide +kernel
theorem dX8_multiply_0 : decode cX8_multiply 0 = .ok (.iconst 0, 1) := by decide +kernel
theorem dX8_multiply_1 : decode cX8_multiply 1 = .ok (.istore 4, 2) := by decide +kernel
theorem dX8_multiply_3 : decode cX8_multiply 3 = .ok (.iload 4, 2) := by decide +kernel
theorem dX8_multiply_5 : decode cX8_multiply 5 = .ok (.aload_n 0, 1) := by decide +kernel
theorem dX8_multiply_6 : decode cX8_multiply 6 = .ok (.getfield 30, 3) := by decide +kernel
theorem dX8_multiply_9 : decode cX8_multiply 9 = .ok (.if_icmp .ge 96, 3) := by decide +kernel
theorem dX8_multiply_12 : decode cX8_multiply 12 = .ok (.iconst 0, 1) := by decide +kernel
theorem dX8_multiply_13 : decode cX8_multiply 13 = .ok (.istore 5, 2) := by decide +kernel
theorem dX8_multiply_15 : decode cX8_multiply 15 = .ok (.iload 5, 2) := by decide +kernel
theorem dX8_multiply_17 : decode cX8_multiply 17 = .ok (.aload_n 0, 1) := by decide +kernel
theorem dX8_multiply_18 : decode cX8_multiply 18 = .ok (.getfield 30, 3) := by decide +kernel
theorem dX8_multiply_21 : decode cX8_multiply 21 = .ok (.if_icmp .ge 78, 3) := by decide +kernel
theorem dX8_multiply_24 : decode cX8_multiply 24 = .ok (.lconst 0, 1) := by decide +kernel
theorem dX8_multiply_25 : decode cX8_multiply 25 = .ok (.lstore 6, 2) := by decide +kernel
theorem dX8_multiply_27 : decode cX8_multiply 27 = .ok (.iconst 0, 1) := by decide +kernel
theorem dX8_multiply_28 : decode cX8_multiply 28 = .ok (.istore 8, 2) := by decide +kernel
theorem dX8_multiply_30 : decode cX8_multiply 30 = .ok (.iload 8, 2) := by decide +kernel
theorem dX8_multiply_32 : decode cX8_multiply 32 = .ok (.aload_n 0, 1) := by decide +kernel
theorem dX8_multiply_33 : decode cX8_multiply 33 = .ok (.getfield 30, 3) := by decide +kernel
theorem dX8_multiply_36 : decode cX8_multiply 36 = .ok (.if_icmp .ge 39, 3) := by decide +kernel
theorem dX8_multiply_39 : decode cX8_multiply 39 = .ok (.lload 6, 2) := by decide +kernel
theorem dX8_multiply_41 : decode cX8_multiply 41 = .ok (.aload_n 1, 1) := by decide +kernel
theorem dX8_multiply_42 : decode cX8_multiply 42 = .ok (.iload 4, 2) := by decide +kernel
theorem dX8_multiply_44 : decode cX8_multiply 44 = .ok (.aload_n 0, 1) := by decide +kernel
theorem dX8_multiply_45 : decode cX8_multiply 45 = .ok (.getfield 30, 3) := by decide +kernel
theorem dX8_multiply_48 : decode cX8_multiply 48 = .ok (.imul, 1) := by decide +kernel
theorem dX8_multiply_49 : decode cX8_multiply 49 = .ok (.iload 8, 2) := by decide +kernel
theorem dX8_multiply_51 : decode cX8_multiply 51 = .ok (.iadd, 1) := by decide +kernel
theorem dX8_multiply_52 : decode cX8_multiply 52 = .ok (.laload, 1) := by decide +kernel
