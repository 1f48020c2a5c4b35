theorem dX0_init_0 : decode cX0_init 0 = .ok (.aload_n 0, 1) := by decide +kernel
theorem dX0_init_1 : decode cX0_init 1 = .ok (.invokespecial 3, 3) := by decide +kernel
theorem dX0_init_4 : decode cX0_init 4 = .ok (.aload_n 0, 1) := by decide +kernel
theorem dX0_init_5 : decode cX0_init 5 = .ok (.bipush 9, 2) := by decide +kernel
theorem dX0_init_7 : decode cX0_init 7 = .ok (.newarray .long, 2) := by decide +kernel
theorem dX0_init_9 : decode cX0_init 9 = .ok (.putfield 9, 3) := by decide +kernel
theorem dX0_init_12 : decode cX0_init 12 = .ok (.aload_n 0, 1) := by decide +kernel
theorem dX0_init_13 : decode cX0_init 13 = .ok (.bipush 9, 2) := by decide +kernel
theorem dX0_init_15 : decode cX0_init 15 = .ok (.newarray .long, 2) := by decide +kernel
theorem dX0_init_17 : decode cX0_init 17 = .ok (.putfield 15, 3) := by decide +kernel
theorem dX0_init_20 : decode cX0_init 20 = .ok (.aload_n 0, 1) := by decide +kernel
theorem dX0_init_21 : decode cX0_init 21 = .ok (.bipush 9, 2) := by decide +kernel
theorem dX0_init_23 : decode cX0_init 23 = .ok (.newarray .long, 2) := by decide +kernel
theorem dX0_init_25 : decode cX0_init 25 = .ok (.putfield 18, 3) := by decide +kernel
theorem dX0_init_28 : decode cX0_init 28 = .ok (.aload_n 0, 1) := by decide +kernel
theorem dX0_init_29 : decode cX0_init 29 = .ok (.iconst 0, 1) := by decide +kernel
theorem dX0_init_30 : decode cX0_init 30 = .ok (.putfield 21, 3) := by decide +kernel
theorem dX0_init_33 : decode cX0_init 33 = .ok (.aload_n 0, 1) := by decide +kernel
theorem dX0_init_34 : decode cX0_init 34 = .ok (.aload_n 1, 1) := by decide +kernel
theorem dX0_init_35 : decode cX0_init 35 = .ok (.putfield 25, 3) := by decide +kernel
theorem dX0_init_38 : decode cX0_init 38 = .ok (.return_, 1) := by decide +kernel
theorem dX0_forget_0 : decode cX0_forget 0 = .ok (.aload_n 0, 1) := by decide +kernel
theorem dX0_forget_1 : decode cX0_forget 1 = .ok (.iconst 0, 1) := by decide +kernel
theorem dX0_forget_2 : decode cX0_forget 2 = .ok (.putfield 21, 3) := by decide +kernel
theorem dX0_forget_5 : decode cX0_forget 5 = .ok (.return_, 1) := by decide +kernel
theorem dX0_isFound_0 : decode cX0_isFound 0 = .ok (.aload_n 0, 1) := by decide +kernel
theorem dX0_isFound_1 : decode cX0_isFound 1 = .ok (.getfield 21, 3) := by decide +kernel
theorem dX0_isFound_4 : decode cX0_isFound 4 = .ok (.iconst 1, 1) := by decide +kernel
theorem dX0_isFound_5 : decode cX0_isFound 5 = .ok (.if_icmp .ne 7, 3) := by decide +kernel
theorem dX0_isFound_8 : decode cX0_isFound 8 = .ok (.iconst 1, 1) := by decide +kernel
theorem dX0_isFound_9 : decode cX0_isFound 9 = .ok (.goto 4, 3) := by decide +kernel
theorem dX0_isFound_12 : decode cX0_isFound 12 = .ok (.iconst 0, 1) := by decide +kernel
theorem dX0_isFound_13 : decode cX0_isFound 13 = .ok (.ireturn, 1) := by decide +kernel
theorem dX0_has_0 : decode cX0_has 0 = .ok (.aload_n 0, 1) := by decide +kernel
theorem dX0_has_1 : decode cX0_has 1 = .ok (.invokevirtual 29, 3) := by decide +kernel
theorem dX0_has_4 : decode cX0_has 4 = .ok (.ifCond .eq 19, 3) := by decide +kernel
theorem dX0_has_7 : decode cX0_has 7 = .ok (.iload_n 1, 1) := by decide +kernel
theorem dX0_has_8 : decode cX0_has 8 = .ok (.ifCond .lt 15, 3) := by decide +kernel
theorem dX0_has_11 : decode cX0_has 11 = .ok (.iload_n 1, 1) := by decide +kernel
theorem dX0_has_12 : decode cX0_has 12 = .ok (.aload_n 0, 1) := by decide +kernel
theorem dX0_has_13 : decode cX0_has 13 = .ok (.getfield 33, 3) := by decide +kernel
theorem dX0_has_16 : decode cX0_has 16 = .ok (.if_icmp .ge 7, 3) := by decide +kernel
theorem dX0_has_19 : decode cX0_has 19 = .ok (.iconst 1, 1) := by decide +kernel
theorem dX0_has_20 : decode cX0_has 20 = .ok (.goto 4, 3) := by decide +kernel
theorem dX0_has_23 : decode cX0_has 23 = .ok (.iconst 0, 1) := by decide +kernel
theorem dX0_has_24 : decode cX0_has 24 = .ok (.ireturn, 1) := by decide +kernel
theorem dX0_search_0 : decode cX0_search 0 = .ok (.aload_n 0, 1) := by decide +kernel
theorem dX0_search_1 : decode cX0_search 1 = .ok (.getfield 21, 3) := by decide +kernel
theorem dX0_search_4 : decode cX0_search 4 = .ok (.ifCond .ne 19, 3) := by decide +kernel
theorem dX0_search_7 : decode cX0_search 7 = .ok (.aload_n 0, 1) := by decide +kernel
theorem dX0_search_8 : decode cX0_search 8 = .ok (.aload_n 0, 1) := by decide +kernel
theorem dX0_search_9 : decode cX0_search 9 = .ok (.invokevirtual 36, 3) := by decide +kernel
theorem dX0_search_12 : decode cX0_search 12 = .ok (.ifCond .eq 7, 3) := by decide +kernel
theorem dX0_search_15 : decode cX0_search 15 = .ok (.iconst 1, 1) := by decide +kernel
theorem dX0_search_16 : decode cX0_search 16 = .ok (.goto 4, 3) := by decide +kernel
theorem dX0_search_19 : decode cX0_search 19 = .ok (.iconst 2, 1) := by decide +kernel
theorem dX0_search_20 : decode cX0_search 20 = .ok (.putfield 21, 3) := by decide +kernel
theorem dX0_search_23 : decode cX0_search 23 = .ok (.aload_n 0, 1) := by decide +kernel
theorem dX0_search_24 : decode cX0_search 24 = .ok (.getfield 21, 3) := by decide +kernel
theorem dX0_search_27 : decode cX0_search 27 = .ok (.iconst 1, 1) := by decide +kernel
theorem dX0_search_28 : decode cX0_search 28 = .ok (.if_icmp .ne 10, 3) := by decide +kernel
theorem dX0_search_31 : decode cX0_search 31 = .ok (.aload_n 0, 1) := by decide +kernel
theorem dX0_search_32 : decode cX0_search 32 = .ok (.getfield 33, 3) := by decide +kernel
theorem dX0_search_35 : decode cX0_search 35 = .ok (.goto 5, 3) := by decide +kernel
theorem dX0_search_38 : decode cX0_search 38 = .ok (.bipush (-6), 2) := by decide +kernel
theorem dX0_search_40 : decode cX0_search 40 = .ok (.ireturn, 1) := by decide +kernel
theorem dX0_entryAt_0 : decode cX0_entryAt 0 = .ok (.aload_n 0, 1) := by decide +kernel
theorem dX0_entryAt_1 : decode cX0_entryAt 1 = .ok (.getfield 39, 3) := by decide +kernel
theorem dX0_entryAt_4 : decode cX0_entryAt 4 = .ok (.iload_n 1, 1) := by decide +kernel
theorem dX0_entryAt_5 : decode cX0_entryAt 5 = .ok (.bipush 9, 2) := by decide +kernel
theorem dX0_entryAt_7 : decode cX0_entryAt 7 = .ok (.imul, 1) := by decide +kernel
theorem dX0_entryAt_8 : decode cX0_entryAt 8 = .ok (.iload_n 2, 1) := by decide +kernel
theorem dX0_entryAt_9 : decode cX0_entryAt 9 = .ok (.iadd, 1) := by decide +kernel
theorem dX0_entryAt_10 : decode cX0_entryAt 10 = .ok (.laload, 1) := by decide +kernel
theorem dX0_entryAt_11 : decode cX0_entryAt 11 = .ok (.lreturn, 1) := by decide +kernel
theorem dX0_lastWordLength_0 : decode cX0_lastWordLength 0 = .ok (.aload_n 0, 1) := by decide +kernel
theorem dX0_lastWordLength_1 : decode cX0_lastWordLength 1 = .ok (.getfield 33, 3) := by decide +kernel
theorem dX0_lastWordLength_4 : decode cX0_lastWordLength 4 = .ok (.ifCond .le 17, 3) := by decide +kernel
theorem dX0_lastWordLength_7 : decode cX0_lastWordLength 7 = .ok (.aload_n 0, 1) := by decide +kernel
theorem dX0_lastWordLength_8 : decode cX0_lastWordLength 8 = .ok (.getfield 42, 3) := by decide +kernel
theorem dX0_lastWordLength_11 : decode cX0_lastWordLength 11 = .ok (.aload_n 0, 1) := by decide +kernel
theorem dX0_lastWordLength_12 : decode cX0_lastWordLength 12 = .ok (.getfield 33, 3) := by decide +kernel
theorem dX0_lastWordLength_15 : decode cX0_lastWordLength 15 = .ok (.iconst 1, 1) := by decide +kernel
theorem dX0_lastWordLength_16 : decode cX0_lastWordLength 16 = .ok (.isub, 1) := by decide +kernel
theorem dX0_lastWordLength_17 : decode cX0_lastWordLength 17 = .ok (.iaload, 1) := by decide +kernel
theorem dX0_lastWordLength_18 : decode cX0_lastWordLength 18 = .ok (.goto 4, 3) := by decide +kernel
theorem dX0_lastWordLength_21 : decode cX0_lastWordLength 21 = .ok (.iconst 0, 1) := by decide +kernel
theorem dX0_lastWordLength_22 : decode cX0_lastWordLength 22 = .ok (.ireturn, 1) := by decide +kernel
theorem dX0_numberOfProduct_0 : decode cX0_numberOfProduct 0 = .ok (.aload_n 0, 1) := by decide +kernel
theorem dX0_numberOfProduct_1 : decode cX0_numberOfProduct 1 = .ok (.iload_n 1, 1) := by decide +kernel
theorem dX0_numberOfProduct_2 : decode cX0_numberOfProduct 2 = .ok (.iload_n 2, 1) := by decide +kernel
theorem dX0_numberOfProduct_3 : decode cX0_numberOfProduct 3 = .ok (.invokevirtual 46, 3) := by decide +kernel
theorem dX0_numberOfProduct_6 : decode cX0_numberOfProduct 6 = .ok (.aload_n 0, 1) := by decide +kernel
theorem dX0_numberOfProduct_7 : decode cX0_numberOfProduct 7 = .ok (.aload_n 0, 1) := by decide +kernel
theorem dX0_numberOfProduct_8 : decode cX0_numberOfProduct 8 = .ok (.getfield 18, 3) := by decide +kernel
theorem dX0_numberOfProduct_11 : decode cX0_numberOfProduct 11 = .ok (.invokevirtual 50, 3) := by decide +kernel
theorem dX0_numberOfProduct_14 : decode cX0_numberOfProduct 14 = .ok (.istore_n 3, 1) := by decide +kernel
theorem dX0_numberOfProduct_15 : decode cX0_numberOfProduct 15 = .ok (.aload_n 0, 1) := by decide +kernel
theorem dX0_numberOfProduct_16 : decode cX0_numberOfProduct 16 = .ok (.getfield 54, 3) := by decide +kernel
theorem dX0_numberOfProduct_19 : decode cX0_numberOfProduct 19 = .ok (.iload_n 3, 1) := by decide +kernel
theorem dX0_numberOfProduct_20 : decode cX0_numberOfProduct 20 = .ok (.iaload, 1) := by decide +kernel
theorem dX0_numberOfProduct_21 : decode cX0_numberOfProduct 21 = .ok (.ifCond .ne 7, 3) := by decide +kernel
theorem dX0_numberOfProduct_24 : decode cX0_numberOfProduct 24 = .ok (.iconst (-1), 1) := by decide +kernel
theorem dX0_numberOfProduct_25 : decode cX0_numberOfProduct 25 = .ok (.goto 11, 3) := by decide +kernel
theorem dX0_numberOfProduct_28 : decode cX0_numberOfProduct 28 = .ok (.aload_n 0, 1) := by decide +kernel
theorem dX0_numberOfProduct_29 : decode cX0_numberOfProduct 29 = .ok (.getfield 54, 3) := by decide +kernel
theorem dX0_numberOfProduct_32 : decode cX0_numberOfProduct 32 = .ok (.iload_n 3, 1) := by decide +kernel
theorem dX0_numberOfProduct_33 : decode cX0_numberOfProduct 33 = .ok (.iaload, 1) := by decide +kernel
theorem dX0_numberOfProduct_34 : decode cX0_numberOfProduct 34 = .ok (.iconst 1, 1) := by decide +kernel
theorem dX0_numberOfProduct_35 : decode cX0_numberOfProduct 35 = .ok (.isub, 1) := by decide +kernel
theorem dX0_numberOfProduct_36 : decode cX0_numberOfProduct 36 = .ok (.ireturn, 1) := by decide +kernel
theorem dX0_findAll_0 : decode cX0_findAll 0 = .ok (.aload_n 0, 1) := by decide +kernel
theorem dX0_findAll_1 : decode cX0_findAll 1 = .ok (.invokevirtual 57, 3) := by decide +kernel
theorem dX0_findAll_4 : decode cX0_findAll 4 = .ok (.iconst 0, 1) := by decide +kernel
theorem dX0_findAll_5 : decode cX0_findAll 5 = .ok (.istore_n 1, 1) := by decide +kernel
theorem dX0_findAll_6 : decode cX0_findAll 6 = .ok (.iload_n 1, 1) := by decide +kernel
theorem dX0_findAll_7 : decode cX0_findAll 7 = .ok (.aload_n 0, 1) := by decide +kernel
theorem dX0_findAll_8 : decode cX0_findAll 8 = .ok (.getfield 25, 3) := by decide +kernel
theorem dX0_findAll_11 : decode cX0_findAll 11 = .ok (.invokevirtual 60, 3) := by decide +kernel
theorem dX0_findAll_14 : decode cX0_findAll 14 = .ok (.if_icmp .ge 27, 3) := by decide +kernel
theorem dX0_findAll_17 : decode cX0_findAll 17 = .ok (.aload_n 0, 1) := by decide +kernel
theorem dX0_findAll_18 : decode cX0_findAll 18 = .ok (.aload_n 0, 1) := by decide +kernel
theorem dX0_findAll_19 : decode cX0_findAll 19 = .ok (.getfield 25, 3) := by decide +kernel
theorem dX0_findAll_22 : decode cX0_findAll 22 = .ok (.iload_n 1, 1) := by decide +kernel
theorem dX0_findAll_23 : decode cX0_findAll 23 = .ok (.invokevirtual 65, 3) := by decide +kernel
theorem dX0_findAll_26 : decode cX0_findAll 26 = .ok (.iconst 1, 1) := by decide +kernel
theorem dX0_findAll_27 : decode cX0_findAll 27 = .ok (.invokevirtual 69, 3) := by decide +kernel
theorem dX0_findAll_30 : decode cX0_findAll 30 = .ok (.ifCond .ne 5, 3) := by decide +kernel
theorem dX0_findAll_33 : decode cX0_findAll 33 = .ok (.iconst 0, 1) := by decide +kernel
theorem dX0_findAll_34 : decode cX0_findAll 34 = .ok (.ireturn, 1) := by decide +kernel
theorem dX0_findAll_35 : decode cX0_findAll 35 = .ok (.iinc 1 1, 3) := by decide +kernel
theorem dX0_findAll_38 : decode cX0_findAll 38 = .ok (.goto (-32), 3) := by decide +kernel
theorem dX0_findAll_41 : decode cX0_findAll 41 = .ok (.iconst 0, 1) := by decide +kernel
theorem dX0_findAll_42 : decode cX0_findAll 42 = .ok (.istore_n 1, 1) := by decide +kernel
theorem dX0_findAll_43 : decode cX0_findAll 43 = .ok (.iload_n 1, 1) := by decide +kernel
theorem dX0_findAll_44 : decode cX0_findAll 44 = .ok (.aload_n 0, 1) := by decide +kernel
theorem dX0_findAll_45 : decode cX0_findAll 45 = .ok (.getfield 33, 3) := by decide +kernel
theorem dX0_findAll_48 : decode cX0_findAll 48 = .ok (.if_icmp .ge 26, 3) := by decide +kernel
theorem dX0_findAll_51 : decode cX0_findAll 51 = .ok (.iload_n 1, 1) := by decide +kernel
theorem dX0_findAll_52 : decode cX0_findAll 52 = .ok (.sipush 2000, 3) := by decide +kernel
theorem dX0_findAll_55 : decode cX0_findAll 55 = .ok (.if_icmp .ge 19, 3) := by decide +kernel
theorem dX0_findAll_58 : decode cX0_findAll 58 = .ok (.aload_n 0, 1) := by decide +kernel
theorem dX0_findAll_59 : decode cX0_findAll 59 = .ok (.iload_n 1, 1) := by decide +kernel
theorem dX0_findAll_60 : decode cX0_findAll 60 = .ok (.invokevirtual 73, 3) := by decide +kernel
theorem dX0_findAll_63 : decode cX0_findAll 63 = .ok (.ifCond .ne 5, 3) := by decide +kernel
theorem dX0_findAll_66 : decode cX0_findAll 66 = .ok (.iconst 0, 1) := by decide +kernel
theorem dX0_findAll_67 : decode cX0_findAll 67 = .ok (.ireturn, 1) := by decide +kernel
theorem dX0_findAll_68 : decode cX0_findAll 68 = .ok (.iinc 1 1, 3) := by decide +kernel
theorem dX0_findAll_71 : decode cX0_findAll 71 = .ok (.goto (-28), 3) := by decide +kernel
theorem dX0_findAll_74 : decode cX0_findAll 74 = .ok (.aload_n 0, 1) := by decide +kernel
theorem dX0_findAll_75 : decode cX0_findAll 75 = .ok (.invokevirtual 77, 3) := by decide +kernel
theorem dX0_findAll_78 : decode cX0_findAll 78 = .ok (.iconst 1, 1) := by decide +kernel
theorem dX0_findAll_79 : decode cX0_findAll 79 = .ok (.ireturn, 1) := by decide +kernel
theorem dX0_prepareRows_0 : decode cX0_prepareRows 0 = .ok (.aload_n 0, 1) := by decide +kernel
theorem dX0_prepareRows_1 : decode cX0_prepareRows 1 = .ok (.getfield 39, 3) := by decide +kernel
theorem dX0_prepareRows_4 : decode cX0_prepareRows 4 = .ok (.ifnull 17, 3) := by decide +kernel
theorem dX0_prepareRows_7 : decode cX0_prepareRows 7 = .ok (.aload_n 0, 1) := by decide +kernel
theorem dX0_prepareRows_8 : decode cX0_prepareRows 8 = .ok (.getfield 42, 3) := by decide +kernel
theorem dX0_prepareRows_11 : decode cX0_prepareRows 11 = .ok (.ifnull 10, 3) := by decide +kernel
theorem dX0_prepareRows_14 : decode cX0_prepareRows 14 = .ok (.aload_n 0, 1) := by decide +kernel
theorem dX0_prepareRows_15 : decode cX0_prepareRows 15 = .ok (.getfield 54, 3) := by decide +kernel
theorem dX0_prepareRows_18 : decode cX0_prepareRows 18 = .ok (.ifnonnull 30, 3) := by decide +kernel
theorem dX0_prepareRows_21 : decode cX0_prepareRows 21 = .ok (.aload_n 0, 1) := by decide +kernel
theorem dX0_prepareRows_22 : decode cX0_prepareRows 22 = .ok (.sipush 18000, 3) := by decide +kernel
theorem dX0_prepareRows_25 : decode cX0_prepareRows 25 = .ok (.newarray .long, 2) := by decide +kernel
theorem dX0_prepareRows_27 : decode cX0_prepareRows 27 = .ok (.putfield 39, 3) := by decide +kernel
theorem dX0_prepareRows_30 : decode cX0_prepareRows 30 = .ok (.aload_n 0, 1) := by decide +kernel
theorem dX0_prepareRows_31 : decode cX0_prepareRows 31 = .ok (.sipush 2000, 3) := by decide +kernel
theorem dX0_prepareRows_34 : decode cX0_prepareRows 34 = .ok (.newarray .int, 2) := by decide +kernel
theorem dX0_prepareRows_36 : decode cX0_prepareRows 36 = .ok (.putfield 42, 3) := by decide +kernel
theorem dX0_prepareRows_39 : decode cX0_prepareRows 39 = .ok (.aload_n 0, 1) := by decide +kernel
theorem dX0_prepareRows_40 : decode cX0_prepareRows 40 = .ok (.sipush 4096, 3) := by decide +kernel
theorem dX0_prepareRows_43 : decode cX0_prepareRows 43 = .ok (.newarray .int, 2) := by decide +kernel
theorem dX0_prepareRows_45 : decode cX0_prepareRows 45 = .ok (.putfield 54, 3) := by decide +kernel
theorem dX0_prepareRows_48 : decode cX0_prepareRows 48 = .ok (.aload_n 0, 1) := by decide +kernel
theorem dX0_prepareRows_49 : decode cX0_prepareRows 49 = .ok (.getfield 54, 3) := by decide +kernel
theorem dX0_prepareRows_52 : decode cX0_prepareRows 52 = .ok (.iconst 0, 1) := by decide +kernel
theorem dX0_prepareRows_53 : decode cX0_prepareRows 53 = .ok (.invokestatic 80, 3) := by decide +kernel
theorem dX0_prepareRows_56 : decode cX0_prepareRows 56 = .ok (.aload_n 0, 1) := by decide +kernel
theorem dX0_prepareRows_57 : decode cX0_prepareRows 57 = .ok (.aload_n 0, 1) := by decide +kernel
theorem dX0_prepareRows_58 : decode cX0_prepareRows 58 = .ok (.getfield 25, 3) := by decide +kernel
theorem dX0_prepareRows_61 : decode cX0_prepareRows 61 = .ok (.invokevirtual 86, 3) := by decide +kernel
theorem dX0_prepareRows_64 : decode cX0_prepareRows 64 = .ok (.putfield 89, 3) := by decide +kernel
theorem dX0_prepareRows_67 : decode cX0_prepareRows 67 = .ok (.aload_n 0, 1) := by decide +kernel
theorem dX0_prepareRows_68 : decode cX0_prepareRows 68 = .ok (.iconst 0, 1) := by decide +kernel
theorem dX0_prepareRows_69 : decode cX0_prepareRows 69 = .ok (.putfield 33, 3) := by decide +kernel
theorem dX0_prepareRows_72 : decode cX0_prepareRows 72 = .ok (.return_, 1) := by decide +kernel
theorem dX0_extendByLetters_0 : decode cX0_extendByLetters 0 = .ok (.aload_n 0, 1) := by decide +kernel
theorem dX0_extendByLetters_1 : decode cX0_extendByLetters 1 = .ok (.iload_n 1, 1) := by decide +kernel
theorem dX0_extendByLetters_2 : decode cX0_extendByLetters 2 = .ok (.aload_n 0, 1) := by decide +kernel
theorem dX0_extendByLetters_3 : decode cX0_extendByLetters 3 = .ok (.getfield 9, 3) := by decide +kernel
theorem dX0_extendByLetters_6 : decode cX0_extendByLetters 6 = .ok (.invokevirtual 91, 3) := by decide +kernel
theorem dX0_extendByLetters_9 : decode cX0_extendByLetters 9 = .ok (.iconst 0, 1) := by decide +kernel
theorem dX0_extendByLetters_10 : decode cX0_extendByLetters 10 = .ok (.istore_n 2, 1) := by decide +kernel
theorem dX0_extendByLetters_11 : decode cX0_extendByLetters 11 = .ok (.iload_n 2, 1) := by decide +kernel
theorem dX0_extendByLetters_12 : decode cX0_extendByLetters 12 = .ok (.aload_n 0, 1) := by decide +kernel
theorem dX0_extendByLetters_13 : decode cX0_extendByLetters 13 = .ok (.getfield 25, 3) := by decide +kernel
theorem dX0_extendByLetters_16 : decode cX0_extendByLetters 16 = .ok (.invokevirtual 60, 3) := by decide +kernel
theorem dX0_extendByLetters_19 : decode cX0_extendByLetters 19 = .ok (.if_icmp .ge 53, 3) := by decide +kernel
theorem dX0_extendByLetters_22 : decode cX0_extendByLetters 22 = .ok (.aload_n 0, 1) := by decide +kernel
theorem dX0_extendByLetters_23 : decode cX0_extendByLetters 23 = .ok (.getfield 25, 3) := by decide +kernel
theorem dX0_extendByLetters_26 : decode cX0_extendByLetters 26 = .ok (.aload_n 0, 1) := by decide +kernel
theorem dX0_extendByLetters_27 : decode cX0_extendByLetters 27 = .ok (.getfield 9, 3) := by decide +kernel
theorem dX0_extendByLetters_30 : decode cX0_extendByLetters 30 = .ok (.aload_n 0, 1) := by decide +kernel
theorem dX0_extendByLetters_31 : decode cX0_extendByLetters 31 = .ok (.getfield 25, 3) := by decide +kernel
theorem dX0_extendByLetters_34 : decode cX0_extendByLetters 34 = .ok (.iload_n 2, 1) := by decide +kernel
theorem dX0_extendByLetters_35 : decode cX0_extendByLetters 35 = .ok (.invokevirtual 65, 3) := by decide +kernel
theorem dX0_extendByLetters_38 : decode cX0_extendByLetters 38 = .ok (.aload_n 0, 1) := by decide +kernel
theorem dX0_extendByLetters_39 : decode cX0_extendByLetters 39 = .ok (.getfield 18, 3) := by decide +kernel
theorem dX0_extendByLetters_42 : decode cX0_extendByLetters 42 = .ok (.invokevirtual 95, 3) := by decide +kernel
theorem dX0_extendByLetters_45 : decode cX0_extendByLetters 45 = .ok (.aload_n 0, 1) := by decide +kernel
theorem dX0_extendByLetters_46 : decode cX0_extendByLetters 46 = .ok (.aload_n 0, 1) := by decide +kernel
theorem dX0_extendByLetters_47 : decode cX0_extendByLetters 47 = .ok (.getfield 18, 3) := by decide +kernel
theorem dX0_extendByLetters_50 : decode cX0_extendByLetters 50 = .ok (.aload_n 0, 1) := by decide +kernel
theorem dX0_extendByLetters_51 : decode cX0_extendByLetters 51 = .ok (.getfield 42, 3) := by decide +kernel
theorem dX0_extendByLetters_54 : decode cX0_extendByLetters 54 = .ok (.iload_n 1, 1) := by decide +kernel
theorem dX0_extendByLetters_55 : decode cX0_extendByLetters 55 = .ok (.iaload, 1) := by decide +kernel
theorem dX0_extendByLetters_56 : decode cX0_extendByLetters 56 = .ok (.iconst 1, 1) := by decide +kernel
theorem dX0_extendByLetters_57 : decode cX0_extendByLetters 57 = .ok (.iadd, 1) := by decide +kernel
theorem dX0_extendByLetters_58 : decode cX0_extendByLetters 58 = .ok (.invokevirtual 69, 3) := by decide +kernel
theorem dX0_extendByLetters_61 : decode cX0_extendByLetters 61 = .ok (.ifCond .ne 5, 3) := by decide +kernel
theorem dX0_extendByLetters_64 : decode cX0_extendByLetters 64 = .ok (.iconst 0, 1) := by decide +kernel
theorem dX0_extendByLetters_65 : decode cX0_extendByLetters 65 = .ok (.ireturn, 1) := by decide +kernel
theorem dX0_extendByLetters_66 : decode cX0_extendByLetters 66 = .ok (.iinc 2 1, 3) := by decide +kernel
theorem dX0_extendByLetters_69 : decode cX0_extendByLetters 69 = .ok (.goto (-58), 3) := by decide +kernel
theorem dX0_extendByLetters_72 : decode cX0_extendByLetters 72 = .ok (.iconst 1, 1) := by decide +kernel
theorem dX0_extendByLetters_73 : decode cX0_extendByLetters 73 = .ok (.ireturn, 1) := by decide +kernel
theorem dX0_take_0 : decode cX0_take 0 = .ok (.aload_n 0, 1) := by decide +kernel
theorem dX0_take_1 : decode cX0_take 1 = .ok (.aload_n 1, 1) := by decide +kernel
theorem dX0_take_2 : decode cX0_take 2 = .ok (.invokevirtual 99, 3) := by decide +kernel
theorem dX0_take_5 : decode cX0_take 5 = .ok (.ifCond .eq 5, 3) := by decide +kernel
theorem dX0_take_8 : decode cX0_take 8 = .ok (.iconst 0, 1) := by decide +kernel
theorem dX0_take_9 : decode cX0_take 9 = .ok (.ireturn, 1) := by decide +kernel
theorem dX0_take_10 : decode cX0_take 10 = .ok (.aload_n 0, 1) := by decide +kernel
theorem dX0_take_11 : decode cX0_take 11 = .ok (.aload_n 1, 1) := by decide +kernel
theorem dX0_take_12 : decode cX0_take 12 = .ok (.invokevirtual 50, 3) := by decide +kernel
theorem dX0_take_15 : decode cX0_take 15 = .ok (.istore_n 3, 1) := by decide +kernel
theorem dX0_take_16 : decode cX0_take 16 = .ok (.aload_n 0, 1) := by decide +kernel
theorem dX0_take_17 : decode cX0_take 17 = .ok (.getfield 54, 3) := by decide +kernel
theorem dX0_take_20 : decode cX0_take 20 = .ok (.iload_n 3, 1) := by decide +kernel
theorem dX0_take_21 : decode cX0_take 21 = .ok (.iaload, 1) := by decide +kernel
theorem dX0_take_22 : decode cX0_take 22 = .ok (.ifCond .eq 5, 3) := by decide +kernel
theorem dX0_take_25 : decode cX0_take 25 = .ok (.iconst 1, 1) := by decide +kernel
theorem dX0_take_26 : decode cX0_take 26 = .ok (.ireturn, 1) := by decide +kernel
theorem dX0_take_27 : decode cX0_take 27 = .ok (.aload_n 0, 1) := by decide +kernel
theorem dX0_take_28 : decode cX0_take 28 = .ok (.getfield 33, 3) := by decide +kernel
theorem dX0_take_31 : decode cX0_take 31 = .ok (.sipush 2000, 3) := by decide +kernel
theorem dX0_take_34 : decode cX0_take 34 = .ok (.if_icmp .lt 5, 3) := by decide +kernel
theorem dX0_take_37 : decode cX0_take 37 = .ok (.iconst 0, 1) := by decide +kernel
theorem dX0_take_38 : decode cX0_take 38 = .ok (.ireturn, 1) := by decide +kernel
theorem dX0_take_39 : decode cX0_take 39 = .ok (.aload_n 1, 1) := by decide +kernel
theorem dX0_take_40 : decode cX0_take 40 = .ok (.iconst 0, 1) := by decide +kernel
theorem dX0_take_41 : decode cX0_take 41 = .ok (.aload_n 0, 1) := by decide +kernel
theorem dX0_take_42 : decode cX0_take 42 = .ok (.getfield 39, 3) := by decide +kernel
theorem dX0_take_45 : decode cX0_take 45 = .ok (.aload_n 0, 1) := by decide +kernel
theorem dX0_take_46 : decode cX0_take 46 = .ok (.getfield 33, 3) := by decide +kernel
theorem dX0_take_49 : decode cX0_take 49 = .ok (.bipush 9, 2) := by decide +kernel
theorem dX0_take_51 : decode cX0_take 51 = .ok (.imul, 1) := by decide +kernel
theorem dX0_take_52 : decode cX0_take 52 = .ok (.aload_n 0, 1) := by decide +kernel
theorem dX0_take_53 : decode cX0_take 53 = .ok (.getfield 89, 3) := by decide +kernel
theorem dX0_take_56 : decode cX0_take 56 = .ok (.invokestatic 103, 3) := by decide +kernel
theorem dX0_take_59 : decode cX0_take 59 = .ok (.aload_n 0, 1) := by decide +kernel
theorem dX0_take_60 : decode cX0_take 60 = .ok (.getfield 42, 3) := by decide +kernel
theorem dX0_take_63 : decode cX0_take 63 = .ok (.aload_n 0, 1) := by decide +kernel
theorem dX0_take_64 : decode cX0_take 64 = .ok (.getfield 33, 3) := by decide +kernel
theorem dX0_take_67 : decode cX0_take 67 = .ok (.iload_n 2, 1) := by decide +kernel
theorem dX0_take_68 : decode cX0_take 68 = .ok (.iastore, 1) := by decide +kernel
theorem dX0_take_69 : decode cX0_take 69 = .ok (.aload_n 0, 1) := by decide +kernel
theorem dX0_take_70 : decode cX0_take 70 = .ok (.dup, 1) := by decide +kernel
theorem dX0_take_71 : decode cX0_take 71 = .ok (.getfield 33, 3) := by decide +kernel
theorem dX0_take_74 : decode cX0_take 74 = .ok (.iconst 1, 1) := by decide +kernel
theorem dX0_take_75 : decode cX0_take 75 = .ok (.iadd, 1) := by decide +kernel
theorem dX0_take_76 : decode cX0_take 76 = .ok (.putfield 33, 3) := by decide +kernel
theorem dX0_take_79 : decode cX0_take 79 = .ok (.aload_n 0, 1) := by decide +kernel
theorem dX0_take_80 : decode cX0_take 80 = .ok (.getfield 54, 3) := by decide +kernel
theorem dX0_take_83 : decode cX0_take 83 = .ok (.iload_n 3, 1) := by decide +kernel
theorem dX0_take_84 : decode cX0_take 84 = .ok (.aload_n 0, 1) := by decide +kernel
theorem dX0_take_85 : decode cX0_take 85 = .ok (.getfield 33, 3) := by decide +kernel
theorem dX0_take_88 : decode cX0_take 88 = .ok (.iastore, 1) := by decide +kernel
theorem dX0_take_89 : decode cX0_take 89 = .ok (.iconst 1, 1) := by decide +kernel
theorem dX0_take_90 : decode cX0_take 90 = .ok (.ireturn, 1) := by decide +kernel
theorem dX0_isBeyond_0 : decode cX0_isBeyond 0 = .ok (.iconst 0, 1) := by decide +kernel
theorem dX0_isBeyond_1 : decode cX0_isBeyond 1 = .ok (.istore_n 2, 1) := by decide +kernel
theorem dX0_isBeyond_2 : decode cX0_isBeyond 2 = .ok (.iload_n 2, 1) := by decide +kernel
theorem dX0_isBeyond_3 : decode cX0_isBeyond 3 = .ok (.aload_n 0, 1) := by decide +kernel
theorem dX0_isBeyond_4 : decode cX0_isBeyond 4 = .ok (.getfield 89, 3) := by decide +kernel
theorem dX0_isBeyond_7 : decode cX0_isBeyond 7 = .ok (.if_icmp .ge 24, 3) := by decide +kernel
theorem dX0_isBeyond_10 : decode cX0_isBeyond 10 = .ok (.aload_n 1, 1) := by decide +kernel
theorem dX0_isBeyond_11 : decode cX0_isBeyond 11 = .ok (.iload_n 2, 1) := by decide +kernel
theorem dX0_isBeyond_12 : decode cX0_isBeyond 12 = .ok (.laload, 1) := by decide +kernel
theorem dX0_isBeyond_13 : decode cX0_isBeyond 13 = .ok (.invokestatic 109, 3) := by decide +kernel
theorem dX0_isBeyond_16 : decode cX0_isBeyond 16 = .ok (.ldc2_w 115, 3) := by decide +kernel
theorem dX0_isBeyond_19 : decode cX0_isBeyond 19 = .ok (.lcmp, 1) := by decide +kernel
theorem dX0_isBeyond_20 : decode cX0_isBeyond 20 = .ok (.ifCond .le 5, 3) := by decide +kernel
theorem dX0_isBeyond_23 : decode cX0_isBeyond 23 = .ok (.iconst 1, 1) := by decide +kernel
theorem dX0_isBeyond_24 : decode cX0_isBeyond 24 = .ok (.ireturn, 1) := by decide +kernel
theorem dX0_isBeyond_25 : decode cX0_isBeyond 25 = .ok (.iinc 2 1, 3) := by decide +kernel
theorem dX0_isBeyond_28 : decode cX0_isBeyond 28 = .ok (.goto (-26), 3) := by decide +kernel
theorem dX0_isBeyond_31 : decode cX0_isBeyond 31 = .ok (.iconst 0, 1) := by decide +kernel
theorem dX0_isBeyond_32 : decode cX0_isBeyond 32 = .ok (.ireturn, 1) := by decide +kernel
theorem dX0_slotOf_0 : decode cX0_slotOf 0 = .ok (.aload_n 0, 1) := by decide +kernel
theorem dX0_slotOf_1 : decode cX0_slotOf 1 = .ok (.aload_n 1, 1) := by decide +kernel
theorem dX0_slotOf_2 : decode cX0_slotOf 2 = .ok (.invokevirtual 117, 3) := by decide +kernel
theorem dX0_slotOf_5 : decode cX0_slotOf 5 = .ok (.istore_n 2, 1) := by decide +kernel
theorem dX0_slotOf_6 : decode cX0_slotOf 6 = .ok (.iconst 0, 1) := by decide +kernel
theorem dX0_slotOf_7 : decode cX0_slotOf 7 = .ok (.istore_n 3, 1) := by decide +kernel
theorem dX0_slotOf_8 : decode cX0_slotOf 8 = .ok (.iload_n 3, 1) := by decide +kernel
theorem dX0_slotOf_9 : decode cX0_slotOf 9 = .ok (.sipush 4096, 3) := by decide +kernel
theorem dX0_slotOf_12 : decode cX0_slotOf 12 = .ok (.if_icmp .ge 44, 3) := by decide +kernel
theorem dX0_slotOf_15 : decode cX0_slotOf 15 = .ok (.aload_n 0, 1) := by decide +kernel
theorem dX0_slotOf_16 : decode cX0_slotOf 16 = .ok (.getfield 54, 3) := by decide +kernel
theorem dX0_slotOf_19 : decode cX0_slotOf 19 = .ok (.iload_n 2, 1) := by decide +kernel
theorem dX0_slotOf_20 : decode cX0_slotOf 20 = .ok (.iaload, 1) := by decide +kernel
theorem dX0_slotOf_21 : decode cX0_slotOf 21 = .ok (.ifCond .eq 19, 3) := by decide +kernel
theorem dX0_slotOf_24 : decode cX0_slotOf 24 = .ok (.aload_n 0, 1) := by decide +kernel
theorem dX0_slotOf_25 : decode cX0_slotOf 25 = .ok (.aload_n 0, 1) := by decide +kernel
theorem dX0_slotOf_26 : decode cX0_slotOf 26 = .ok (.getfield 54, 3) := by decide +kernel
theorem dX0_slotOf_29 : decode cX0_slotOf 29 = .ok (.iload_n 2, 1) := by decide +kernel
theorem dX0_slotOf_30 : decode cX0_slotOf 30 = .ok (.iaload, 1) := by decide +kernel
theorem dX0_slotOf_31 : decode cX0_slotOf 31 = .ok (.iconst 1, 1) := by decide +kernel
theorem dX0_slotOf_32 : decode cX0_slotOf 32 = .ok (.isub, 1) := by decide +kernel
theorem dX0_slotOf_33 : decode cX0_slotOf 33 = .ok (.aload_n 1, 1) := by decide +kernel
theorem dX0_slotOf_34 : decode cX0_slotOf 34 = .ok (.invokevirtual 120, 3) := by decide +kernel
theorem dX0_slotOf_37 : decode cX0_slotOf 37 = .ok (.ifCond .eq 5, 3) := by decide +kernel
theorem dX0_slotOf_40 : decode cX0_slotOf 40 = .ok (.iload_n 2, 1) := by decide +kernel
theorem dX0_slotOf_41 : decode cX0_slotOf 41 = .ok (.ireturn, 1) := by decide +kernel
theorem dX0_slotOf_42 : decode cX0_slotOf 42 = .ok (.iload_n 2, 1) := by decide +kernel
theorem dX0_slotOf_43 : decode cX0_slotOf 43 = .ok (.iconst 1, 1) := by decide +kernel
theorem dX0_slotOf_44 : decode cX0_slotOf 44 = .ok (.iadd, 1) := by decide +kernel
theorem dX0_slotOf_45 : decode cX0_slotOf 45 = .ok (.sipush 4095, 3) := by decide +kernel
theorem dX0_slotOf_48 : decode cX0_slotOf 48 = .ok (.iand, 1) := by decide +kernel
theorem dX0_slotOf_49 : decode cX0_slotOf 49 = .ok (.istore_n 2, 1) := by decide +kernel
theorem dX0_slotOf_50 : decode cX0_slotOf 50 = .ok (.iinc 3 1, 3) := by decide +kernel
theorem dX0_slotOf_53 : decode cX0_slotOf 53 = .ok (.goto (-45), 3) := by decide +kernel
theorem dX0_slotOf_56 : decode cX0_slotOf 56 = .ok (.iload_n 2, 1) := by decide +kernel
theorem dX0_slotOf_57 : decode cX0_slotOf 57 = .ok (.ireturn, 1) := by decide +kernel
theorem dX0_firstSlotOf_0 : decode cX0_firstSlotOf 0 = .ok (.iconst 0, 1) := by decide +kernel
theorem dX0_firstSlotOf_1 : decode cX0_firstSlotOf 1 = .ok (.istore_n 2, 1) := by decide +kernel
theorem dX0_firstSlotOf_2 : decode cX0_firstSlotOf 2 = .ok (.iconst 0, 1) := by decide +kernel
theorem dX0_firstSlotOf_3 : decode cX0_firstSlotOf 3 = .ok (.istore_n 3, 1) := by decide +kernel
theorem dX0_firstSlotOf_4 : decode cX0_firstSlotOf 4 = .ok (.iload_n 3, 1) := by decide +kernel
theorem dX0_firstSlotOf_5 : decode cX0_firstSlotOf 5 = .ok (.aload_n 0, 1) := by decide +kernel
theorem dX0_firstSlotOf_6 : decode cX0_firstSlotOf 6 = .ok (.getfield 89, 3) := by decide +kernel
theorem dX0_firstSlotOf_9 : decode cX0_firstSlotOf 9 = .ok (.if_icmp .ge 19, 3) := by decide +kernel
theorem dX0_firstSlotOf_12 : decode cX0_firstSlotOf 12 = .ok (.iload_n 2, 1) := by decide +kernel
theorem dX0_firstSlotOf_13 : decode cX0_firstSlotOf 13 = .ok (.ldc 124, 2) := by decide +kernel
theorem dX0_firstSlotOf_15 : decode cX0_firstSlotOf 15 = .ok (.imul, 1) := by decide +kernel
theorem dX0_firstSlotOf_16 : decode cX0_firstSlotOf 16 = .ok (.aload_n 1, 1) := by decide +kernel
theorem dX0_firstSlotOf_17 : decode cX0_firstSlotOf 17 = .ok (.iload_n 3, 1) := by decide +kernel
theorem dX0_firstSlotOf_18 : decode cX0_firstSlotOf 18 = .ok (.laload, 1) := by decide +kernel
theorem dX0_firstSlotOf_19 : decode cX0_firstSlotOf 19 = .ok (.l2i, 1) := by decide +kernel
theorem dX0_firstSlotOf_20 : decode cX0_firstSlotOf 20 = .ok (.iadd, 1) := by decide +kernel
theorem dX0_firstSlotOf_21 : decode cX0_firstSlotOf 21 = .ok (.istore_n 2, 1) := by decide +kernel
theorem dX0_firstSlotOf_22 : decode cX0_firstSlotOf 22 = .ok (.iinc 3 1, 3) := by decide +kernel
theorem dX0_firstSlotOf_25 : decode cX0_firstSlotOf 25 = .ok (.goto (-21), 3) := by decide +kernel
theorem dX0_firstSlotOf_28 : decode cX0_firstSlotOf 28 = .ok (.iload_n 2, 1) := by decide +kernel
theorem dX0_firstSlotOf_29 : decode cX0_firstSlotOf 29 = .ok (.iload_n 2, 1) := by decide +kernel
theorem dX0_firstSlotOf_30 : decode cX0_firstSlotOf 30 = .ok (.bipush 15, 2) := by decide +kernel
theorem dX0_firstSlotOf_32 : decode cX0_firstSlotOf 32 = .ok (.iushr, 1) := by decide +kernel
theorem dX0_firstSlotOf_33 : decode cX0_firstSlotOf 33 = .ok (.ixor, 1) := by decide +kernel
theorem dX0_firstSlotOf_34 : decode cX0_firstSlotOf 34 = .ok (.istore_n 2, 1) := by decide +kernel
theorem dX0_firstSlotOf_35 : decode cX0_firstSlotOf 35 = .ok (.iload_n 2, 1) := by decide +kernel
theorem dX0_firstSlotOf_36 : decode cX0_firstSlotOf 36 = .ok (.iload_n 2, 1) := by decide +kernel
theorem dX0_firstSlotOf_37 : decode cX0_firstSlotOf 37 = .ok (.bipush 7, 2) := by decide +kernel
theorem dX0_firstSlotOf_39 : decode cX0_firstSlotOf 39 = .ok (.iushr, 1) := by decide +kernel
theorem dX0_firstSlotOf_40 : decode cX0_firstSlotOf 40 = .ok (.ixor, 1) := by decide +kernel
theorem dX0_firstSlotOf_41 : decode cX0_firstSlotOf 41 = .ok (.sipush 4095, 3) := by decide +kernel
theorem dX0_firstSlotOf_44 : decode cX0_firstSlotOf 44 = .ok (.iand, 1) := by decide +kernel
theorem dX0_firstSlotOf_45 : decode cX0_firstSlotOf 45 = .ok (.ireturn, 1) := by decide +kernel
theorem dX0_isSame_0 : decode cX0_isSame 0 = .ok (.iconst 0, 1) := by decide +kernel
theorem dX0_isSame_1 : decode cX0_isSame 1 = .ok (.istore_n 3, 1) := by decide +kernel
theorem dX0_isSame_2 : decode cX0_isSame 2 = .ok (.iload_n 3, 1) := by decide +kernel
theorem dX0_isSame_3 : decode cX0_isSame 3 = .ok (.aload_n 0, 1) := by decide +kernel
theorem dX0_isSame_4 : decode cX0_isSame 4 = .ok (.getfield 89, 3) := by decide +kernel
theorem dX0_isSame_7 : decode cX0_isSame 7 = .ok (.if_icmp .ge 29, 3) := by decide +kernel
theorem dX0_isSame_10 : decode cX0_isSame 10 = .ok (.aload_n 0, 1) := by decide +kernel
theorem dX0_isSame_11 : decode cX0_isSame 11 = .ok (.getfield 39, 3) := by decide +kernel
theorem dX0_isSame_14 : decode cX0_isSame 14 = .ok (.iload_n 1, 1) := by decide +kernel
theorem dX0_isSame_15 : decode cX0_isSame 15 = .ok (.bipush 9, 2) := by decide +kernel
theorem dX0_isSame_17 : decode cX0_isSame 17 = .ok (.imul, 1) := by decide +kernel
theorem dX0_isSame_18 : decode cX0_isSame 18 = .ok (.iload_n 3, 1) := by decide +kernel
theorem dX0_isSame_19 : decode cX0_isSame 19 = .ok (.iadd, 1) := by decide +kernel
theorem dX0_isSame_20 : decode cX0_isSame 20 = .ok (.laload, 1) := by decide +kernel
theorem dX0_isSame_21 : decode cX0_isSame 21 = .ok (.aload_n 2, 1) := by decide +kernel
theorem dX0_isSame_22 : decode cX0_isSame 22 = .ok (.iload_n 3, 1) := by decide +kernel
theorem dX0_isSame_23 : decode cX0_isSame 23 = .ok (.laload, 1) := by decide +kernel
theorem dX0_isSame_24 : decode cX0_isSame 24 = .ok (.lcmp, 1) := by decide +kernel
theorem dX0_isSame_25 : decode cX0_isSame 25 = .ok (.ifCond .eq 5, 3) := by decide +kernel
theorem dX0_isSame_28 : decode cX0_isSame 28 = .ok (.iconst 0, 1) := by decide +kernel
theorem dX0_isSame_29 : decode cX0_isSame 29 = .ok (.ireturn, 1) := by decide +kernel
theorem dX0_isSame_30 : decode cX0_isSame 30 = .ok (.iinc 3 1, 3) := by decide +kernel
theorem dX0_isSame_33 : decode cX0_isSame 33 = .ok (.goto (-31), 3) := by decide +kernel
theorem dX0_isSame_36 : decode cX0_isSame 36 = .ok (.iconst 1, 1) := by decide +kernel
theorem dX0_isSame_37 : decode cX0_isSame 37 = .ok (.ireturn, 1) := by decide +kernel
theorem dX0_load_0 : decode cX0_load 0 = .ok (.aload_n 0, 1) := by decide +kernel
theorem dX0_load_1 : decode cX0_load 1 = .ok (.getfield 39, 3) := by decide +kernel
theorem dX0_load_4 : decode cX0_load 4 = .ok (.iload_n 1, 1) := by decide +kernel
theorem dX0_load_5 : decode cX0_load 5 = .ok (.bipush 9, 2) := by decide +kernel
theorem dX0_load_7 : decode cX0_load 7 = .ok (.imul, 1) := by decide +kernel
theorem dX0_load_8 : decode cX0_load 8 = .ok (.aload_n 2, 1) := by decide +kernel
