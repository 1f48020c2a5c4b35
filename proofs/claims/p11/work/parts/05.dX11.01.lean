theorem dX11_growth_96 : decode cX11_growth 96 = .ok (.ireturn, 1) := by decide +kernel
theorem dX11_close_0 : decode cX11_close 0 = .ok (.aload_n 0, 1) := by decide +kernel
theorem dX11_close_1 : decode cX11_close 1 = .ok (.getfield 14, 3) := by decide +kernel
theorem dX11_close_4 : decode cX11_close 4 = .ok (.invokevirtual 151, 3) := by decide +kernel
theorem dX11_close_7 : decode cX11_close 7 = .ok (.ifCond .ne 8, 3) := by decide +kernel
theorem dX11_close_10 : decode cX11_close 10 = .ok (.bipush (-3), 2) := by decide +kernel
theorem dX11_close_12 : decode cX11_close 12 = .ok (.goto 10, 3) := by decide +kernel
theorem dX11_close_15 : decode cX11_close 15 = .ok (.aload_n 0, 1) := by decide +kernel
theorem dX11_close_16 : decode cX11_close 16 = .ok (.getfield 30, 3) := by decide +kernel
theorem dX11_close_19 : decode cX11_close 19 = .ok (.invokevirtual 157, 3) := by decide +kernel
theorem dX11_close_22 : decode cX11_close 22 = .ok (.ireturn, 1) := by decide +kernel
theorem dX11_closed_0 : decode cX11_closed 0 = .ok (.iload_n 1, 1) := by decide +kernel
theorem dX11_closed_1 : decode cX11_closed 1 = .ok (.iconst 0, 1) := by decide +kernel
theorem dX11_closed_2 : decode cX11_closed 2 = .ok (.iconst 4, 1) := by decide +kernel
theorem dX11_closed_3 : decode cX11_closed 3 = .ok (.invokestatic 55, 3) := by decide +kernel
theorem dX11_closed_6 : decode cX11_closed 6 = .ok (.ifCond .ne 6, 3) := by decide +kernel
theorem dX11_closed_9 : decode cX11_closed 9 = .ok (.bipush (-2), 2) := by decide +kernel
theorem dX11_closed_11 : decode cX11_closed 11 = .ok (.ireturn, 1) := by decide +kernel
theorem dX11_closed_12 : decode cX11_closed 12 = .ok (.aload_n 0, 1) := by decide +kernel
theorem dX11_closed_13 : decode cX11_closed 13 = .ok (.getfield 30, 3) := by decide +kernel
theorem dX11_closed_16 : decode cX11_closed 16 = .ok (.invokevirtual 160, 3) := by decide +kernel
theorem dX11_closed_19 : decode cX11_closed 19 = .ok (.ifCond .ne 6, 3) := by decide +kernel
theorem dX11_closed_22 : decode cX11_closed 22 = .ok (.bipush (-3), 2) := by decide +kernel
theorem dX11_closed_24 : decode cX11_closed 24 = .ok (.ireturn, 1) := by decide +kernel
theorem dX11_closed_25 : decode cX11_closed 25 = .ok (.iload_n 1, 1) := by decide +kernel
theorem dX11_closed_26 : decode cX11_closed 26 = .ok (.tableswitch 70 0 3 #[30, 38, 54, 62], 30) := by decide +kernel
theorem dX11_closed_56 : decode cX11_closed 56 = .ok (.aload_n 0, 1) := by decide +kernel
theorem dX11_closed_57 : decode cX11_closed 57 = .ok (.getfield 30, 3) := by decide +kernel
theorem dX11_closed_60 : decode cX11_closed 60 = .ok (.getfield 164, 3) := by decide +kernel
theorem dX11_closed_63 : decode cX11_closed 63 = .ok (.ireturn, 1) := by decide +kernel
theorem dX11_closed_64 : decode cX11_closed 64 = .ok (.aload_n 0, 1) := by decide +kernel
theorem dX11_closed_65 : decode cX11_closed 65 = .ok (.getfield 30, 3) := by decide +kernel
theorem dX11_closed_68 : decode cX11_closed 68 = .ok (.getfield 166, 3) := by decide +kernel
theorem dX11_closed_71 : decode cX11_closed 71 = .ok (.ifCond .eq 7, 3) := by decide +kernel
theorem dX11_closed_74 : decode cX11_closed 74 = .ok (.iconst 1, 1) := by decide +kernel
theorem dX11_closed_75 : decode cX11_closed 75 = .ok (.goto 4, 3) := by decide +kernel
theorem dX11_closed_78 : decode cX11_closed 78 = .ok (.iconst 0, 1) := by decide +kernel
theorem dX11_closed_79 : decode cX11_closed 79 = .ok (.ireturn, 1) := by decide +kernel
theorem dX11_closed_80 : decode cX11_closed 80 = .ok (.aload_n 0, 1) := by decide +kernel
theorem dX11_closed_81 : decode cX11_closed 81 = .ok (.getfield 30, 3) := by decide +kernel
theorem dX11_closed_84 : decode cX11_closed 84 = .ok (.getfield 170, 3) := by decide +kernel
theorem dX11_closed_87 : decode cX11_closed 87 = .ok (.ireturn, 1) := by decide +kernel
theorem dX11_closed_88 : decode cX11_closed 88 = .ok (.aload_n 0, 1) := by decide +kernel
theorem dX11_closed_89 : decode cX11_closed 89 = .ok (.getfield 30, 3) := by decide +kernel
theorem dX11_closed_92 : decode cX11_closed 92 = .ok (.getfield 173, 3) := by decide +kernel
theorem dX11_closed_95 : decode cX11_closed 95 = .ok (.ireturn, 1) := by decide +kernel
theorem dX11_closed_96 : decode cX11_closed 96 = .ok (.aload_n 0, 1) := by decide +kernel
theorem dX11_closed_97 : decode cX11_closed 97 = .ok (.getfield 30, 3) := by decide +kernel
theorem dX11_closed_100 : decode cX11_closed 100 = .ok (.invokevirtual 176, 3) := by decide +kernel
theorem dX11_closed_103 : decode cX11_closed 103 = .ok (.ireturn, 1) := by decide +kernel
theorem dX11_product_0 : decode cX11_product 0 = .ok (.aload_n 0, 1) := by decide +kernel
theorem dX11_product_1 : decode cX11_product 1 = .ok (.getfield 30, 3) := by decide +kernel
theorem dX11_product_4 : decode cX11_product 4 = .ok (.iload_n 1, 1) := by decide +kernel
theorem dX11_product_5 : decode cX11_product 5 = .ok (.invokevirtual 179, 3) := by decide +kernel
theorem dX11_product_8 : decode cX11_product 8 = .ok (.ifCond .eq 15, 3) := by decide +kernel
theorem dX11_product_11 : decode cX11_product 11 = .ok (.aload_n 0, 1) := by decide +kernel
theorem dX11_product_12 : decode cX11_product 12 = .ok (.getfield 14, 3) := by decide +kernel
theorem dX11_product_15 : decode cX11_product 15 = .ok (.iload_n 2, 1) := by decide +kernel
theorem dX11_product_16 : decode cX11_product 16 = .ok (.iload_n 3, 1) := by decide +kernel
theorem dX11_product_17 : decode cX11_product 17 = .ok (.invokevirtual 83, 3) := by decide +kernel
theorem dX11_product_20 : decode cX11_product 20 = .ok (.ifCond .ne 7, 3) := by decide +kernel
theorem dX11_product_23 : decode cX11_product 23 = .ok (.ldc2_w 87, 3) := by decide +kernel
theorem dX11_product_26 : decode cX11_product 26 = .ok (.lreturn, 1) := by decide +kernel
theorem dX11_product_27 : decode cX11_product 27 = .ok (.aload_n 0, 1) := by decide +kernel
theorem dX11_product_28 : decode cX11_product 28 = .ok (.getfield 30, 3) := by decide +kernel
theorem dX11_product_31 : decode cX11_product 31 = .ok (.iload_n 1, 1) := by decide +kernel
theorem dX11_product_32 : decode cX11_product 32 = .ok (.aload_n 0, 1) := by decide +kernel
theorem dX11_product_33 : decode cX11_product 33 = .ok (.getfield 14, 3) := by decide +kernel
theorem dX11_product_36 : decode cX11_product 36 = .ok (.iload_n 2, 1) := by decide +kernel
theorem dX11_product_37 : decode cX11_product 37 = .ok (.iload_n 3, 1) := by decide +kernel
theorem dX11_product_38 : decode cX11_product 38 = .ok (.invokevirtual 99, 3) := by decide +kernel
theorem dX11_product_41 : decode cX11_product 41 = .ok (.invokevirtual 180, 3) := by decide +kernel
theorem dX11_product_44 : decode cX11_product 44 = .ok (.lreturn, 1) := by decide +kernel
theorem dX11_times_0 : decode cX11_times 0 = .ok (.aload_n 0, 1) := by decide +kernel
theorem dX11_times_1 : decode cX11_times 1 = .ok (.getfield 30, 3) := by decide +kernel
theorem dX11_times_4 : decode cX11_times 4 = .ok (.iload_n 1, 1) := by decide +kernel
theorem dX11_times_5 : decode cX11_times 5 = .ok (.invokevirtual 179, 3) := by decide +kernel
theorem dX11_times_8 : decode cX11_times 8 = .ok (.ifCond .eq 14, 3) := by decide +kernel
theorem dX11_times_11 : decode cX11_times 11 = .ok (.aload_n 0, 1) := by decide +kernel
theorem dX11_times_12 : decode cX11_times 12 = .ok (.getfield 30, 3) := by decide +kernel
theorem dX11_times_15 : decode cX11_times 15 = .ok (.iload_n 2, 1) := by decide +kernel
theorem dX11_times_16 : decode cX11_times 16 = .ok (.invokevirtual 179, 3) := by decide +kernel
theorem dX11_times_19 : decode cX11_times 19 = .ok (.ifCond .ne 5, 3) := by decide +kernel
theorem dX11_times_22 : decode cX11_times 22 = .ok (.iconst (-1), 1) := by decide +kernel
theorem dX11_times_23 : decode cX11_times 23 = .ok (.ireturn, 1) := by decide +kernel
theorem dX11_times_24 : decode cX11_times 24 = .ok (.aload_n 0, 1) := by decide +kernel
theorem dX11_times_25 : decode cX11_times 25 = .ok (.getfield 30, 3) := by decide +kernel
theorem dX11_times_28 : decode cX11_times 28 = .ok (.iload_n 1, 1) := by decide +kernel
theorem dX11_times_29 : decode cX11_times 29 = .ok (.iload_n 2, 1) := by decide +kernel
theorem dX11_times_30 : decode cX11_times 30 = .ok (.invokevirtual 184, 3) := by decide +kernel
theorem dX11_times_33 : decode cX11_times 33 = .ok (.ireturn, 1) := by decide +kernel
theorem dX11_word_0 : decode cX11_word 0 = .ok (.aload_n 0, 1) := by decide +kernel
theorem dX11_word_1 : decode cX11_word 1 = .ok (.aload_n 0, 1) := by decide +kernel
theorem dX11_word_2 : decode cX11_word 2 = .ok (.iload_n 1, 1) := by decide +kernel
theorem dX11_word_3 : decode cX11_word 3 = .ok (.iload_n 2, 1) := by decide +kernel
theorem dX11_word_4 : decode cX11_word 4 = .ok (.iload_n 3, 1) := by decide +kernel
theorem dX11_word_5 : decode cX11_word 5 = .ok (.iload 4, 2) := by decide +kernel
theorem dX11_word_7 : decode cX11_word 7 = .ok (.invokevirtual 187, 3) := by decide +kernel
theorem dX11_word_10 : decode cX11_word 10 = .ok (.invokevirtual 75, 3) := by decide +kernel
theorem dX11_word_13 : decode cX11_word 13 = .ok (.ireturn, 1) := by decide +kernel
theorem dX11_join_0 : decode cX11_join 0 = .ok (.aload_n 0, 1) := by decide +kernel
theorem dX11_join_1 : decode cX11_join 1 = .ok (.iload_n 1, 1) := by decide +kernel
theorem dX11_join_2 : decode cX11_join 2 = .ok (.invokevirtual 191, 3) := by decide +kernel
theorem dX11_join_5 : decode cX11_join 5 = .ok (.ifCond .eq 11, 3) := by decide +kernel
theorem dX11_join_8 : decode cX11_join 8 = .ok (.aload_n 0, 1) := by decide +kernel
theorem dX11_join_9 : decode cX11_join 9 = .ok (.iload_n 2, 1) := by decide +kernel
theorem dX11_join_10 : decode cX11_join 10 = .ok (.invokevirtual 191, 3) := by decide +kernel
theorem dX11_join_13 : decode cX11_join 13 = .ok (.ifCond .ne 5, 3) := by decide +kernel
theorem dX11_join_16 : decode cX11_join 16 = .ok (.iconst (-1), 1) := by decide +kernel
theorem dX11_join_17 : decode cX11_join 17 = .ok (.ireturn, 1) := by decide +kernel
theorem dX11_join_18 : decode cX11_join 18 = .ok (.aload_n 0, 1) := by decide +kernel
theorem dX11_join_19 : decode cX11_join 19 = .ok (.getfield 36, 3) := by decide +kernel
theorem dX11_join_22 : decode cX11_join 22 = .ok (.iload_n 1, 1) := by decide +kernel
theorem dX11_join_23 : decode cX11_join 23 = .ok (.aaload, 1) := by decide +kernel
theorem dX11_join_24 : decode cX11_join 24 = .ok (.getfield 194, 3) := by decide +kernel
theorem dX11_join_27 : decode cX11_join 27 = .ok (.aload_n 0, 1) := by decide +kernel
theorem dX11_join_28 : decode cX11_join 28 = .ok (.getfield 36, 3) := by decide +kernel
theorem dX11_join_31 : decode cX11_join 31 = .ok (.iload_n 2, 1) := by decide +kernel
theorem dX11_join_32 : decode cX11_join 32 = .ok (.aaload, 1) := by decide +kernel
theorem dX11_join_33 : decode cX11_join 33 = .ok (.getfield 194, 3) := by decide +kernel
theorem dX11_join_36 : decode cX11_join 36 = .ok (.iadd, 1) := by decide +kernel
theorem dX11_join_37 : decode cX11_join 37 = .ok (.bipush 12, 2) := by decide +kernel
theorem dX11_join_39 : decode cX11_join 39 = .ok (.if_icmp .le 6, 3) := by decide +kernel
theorem dX11_join_42 : decode cX11_join 42 = .ok (.bipush (-2), 2) := by decide +kernel
theorem dX11_join_44 : decode cX11_join 44 = .ok (.ireturn, 1) := by decide +kernel
theorem dX11_join_45 : decode cX11_join 45 = .ok (.aload_n 0, 1) := by decide +kernel
theorem dX11_join_46 : decode cX11_join 46 = .ok (.getfield 67, 3) := by decide +kernel
theorem dX11_join_49 : decode cX11_join 49 = .ok (.bipush 10, 2) := by decide +kernel
theorem dX11_join_51 : decode cX11_join 51 = .ok (.if_icmp .lt 6, 3) := by decide +kernel
theorem dX11_join_54 : decode cX11_join 54 = .ok (.bipush (-4), 2) := by decide +kernel
theorem dX11_join_56 : decode cX11_join 56 = .ok (.ireturn, 1) := by decide +kernel
theorem dX11_join_57 : decode cX11_join 57 = .ok (.aload_n 0, 1) := by decide +kernel
theorem dX11_join_58 : decode cX11_join 58 = .ok (.getfield 36, 3) := by decide +kernel
theorem dX11_join_61 : decode cX11_join 61 = .ok (.aload_n 0, 1) := by decide +kernel
theorem dX11_join_62 : decode cX11_join 62 = .ok (.getfield 67, 3) := by decide +kernel
theorem dX11_join_65 : decode cX11_join 65 = .ok (.aaload, 1) := by decide +kernel
theorem dX11_join_66 : decode cX11_join 66 = .ok (.astore_n 3, 1) := by decide +kernel
theorem dX11_join_67 : decode cX11_join 67 = .ok (.aload_n 3, 1) := by decide +kernel
theorem dX11_join_68 : decode cX11_join 68 = .ok (.invokevirtual 197, 3) := by decide +kernel
theorem dX11_join_71 : decode cX11_join 71 = .ok (.aload_n 3, 1) := by decide +kernel
theorem dX11_join_72 : decode cX11_join 72 = .ok (.aload_n 0, 1) := by decide +kernel
theorem dX11_join_73 : decode cX11_join 73 = .ok (.getfield 36, 3) := by decide +kernel
theorem dX11_join_76 : decode cX11_join 76 = .ok (.iload_n 1, 1) := by decide +kernel
theorem dX11_join_77 : decode cX11_join 77 = .ok (.aaload, 1) := by decide +kernel
theorem dX11_join_78 : decode cX11_join 78 = .ok (.invokevirtual 200, 3) := by decide +kernel
theorem dX11_join_81 : decode cX11_join 81 = .ok (.aload_n 3, 1) := by decide +kernel
theorem dX11_join_82 : decode cX11_join 82 = .ok (.aload_n 0, 1) := by decide +kernel
theorem dX11_join_83 : decode cX11_join 83 = .ok (.getfield 36, 3) := by decide +kernel
theorem dX11_join_86 : decode cX11_join 86 = .ok (.iload_n 2, 1) := by decide +kernel
theorem dX11_join_87 : decode cX11_join 87 = .ok (.aaload, 1) := by decide +kernel
theorem dX11_join_88 : decode cX11_join 88 = .ok (.invokevirtual 200, 3) := by decide +kernel
theorem dX11_join_91 : decode cX11_join 91 = .ok (.aload_n 0, 1) := by decide +kernel
theorem dX11_join_92 : decode cX11_join 92 = .ok (.invokevirtual 204, 3) := by decide +kernel
theorem dX11_join_95 : decode cX11_join 95 = .ok (.ireturn, 1) := by decide +kernel
theorem dX11_letter_0 : decode cX11_letter 0 = .ok (.aload_n 0, 1) := by decide +kernel
theorem dX11_letter_1 : decode cX11_letter 1 = .ok (.iload_n 1, 1) := by decide +kernel
theorem dX11_letter_2 : decode cX11_letter 2 = .ok (.invokevirtual 191, 3) := by decide +kernel
theorem dX11_letter_5 : decode cX11_letter 5 = .ok (.ifCond .eq 22, 3) := by decide +kernel
theorem dX11_letter_8 : decode cX11_letter 8 = .ok (.iload_n 2, 1) := by decide +kernel
theorem dX11_letter_9 : decode cX11_letter 9 = .ok (.iconst 0, 1) := by decide +kernel
theorem dX11_letter_10 : decode cX11_letter 10 = .ok (.aload_n 0, 1) := by decide +kernel
theorem dX11_letter_11 : decode cX11_letter 11 = .ok (.getfield 36, 3) := by decide +kernel
theorem dX11_letter_14 : decode cX11_letter 14 = .ok (.iload_n 1, 1) := by decide +kernel
theorem dX11_letter_15 : decode cX11_letter 15 = .ok (.aaload, 1) := by decide +kernel
theorem dX11_letter_16 : decode cX11_letter 16 = .ok (.getfield 194, 3) := by decide +kernel
theorem dX11_letter_19 : decode cX11_letter 19 = .ok (.iconst 1, 1) := by decide +kernel
theorem dX11_letter_20 : decode cX11_letter 20 = .ok (.isub, 1) := by decide +kernel
theorem dX11_letter_21 : decode cX11_letter 21 = .ok (.invokestatic 55, 3) := by decide +kernel
theorem dX11_letter_24 : decode cX11_letter 24 = .ok (.ifCond .ne 5, 3) := by decide +kernel
theorem dX11_letter_27 : decode cX11_letter 27 = .ok (.iconst (-1), 1) := by decide +kernel
theorem dX11_letter_28 : decode cX11_letter 28 = .ok (.ireturn, 1) := by decide +kernel
theorem dX11_letter_29 : decode cX11_letter 29 = .ok (.aload_n 0, 1) := by decide +kernel
theorem dX11_letter_30 : decode cX11_letter 30 = .ok (.getfield 36, 3) := by decide +kernel
theorem dX11_letter_33 : decode cX11_letter 33 = .ok (.iload_n 1, 1) := by decide +kernel
theorem dX11_letter_34 : decode cX11_letter 34 = .ok (.aaload, 1) := by decide +kernel
theorem dX11_letter_35 : decode cX11_letter 35 = .ok (.getfield 207, 3) := by decide +kernel
theorem dX11_letter_38 : decode cX11_letter 38 = .ok (.iload_n 2, 1) := by decide +kernel
theorem dX11_letter_39 : decode cX11_letter 39 = .ok (.iaload, 1) := by decide +kernel
theorem dX11_letter_40 : decode cX11_letter 40 = .ok (.ireturn, 1) := by decide +kernel
theorem dX11_about_0 : decode cX11_about 0 = .ok (.aload_n 0, 1) := by decide +kernel
theorem dX11_about_1 : decode cX11_about 1 = .ok (.iload_n 1, 1) := by decide +kernel
theorem dX11_about_2 : decode cX11_about 2 = .ok (.invokevirtual 191, 3) := by decide +kernel
theorem dX11_about_5 : decode cX11_about 5 = .ok (.ifCond .ne 5, 3) := by decide +kernel
theorem dX11_about_8 : decode cX11_about 8 = .ok (.iconst (-1), 1) := by decide +kernel
theorem dX11_about_9 : decode cX11_about 9 = .ok (.ireturn, 1) := by decide +kernel
theorem dX11_about_10 : decode cX11_about 10 = .ok (.aload_n 0, 1) := by decide +kernel
theorem dX11_about_11 : decode cX11_about 11 = .ok (.getfield 36, 3) := by decide +kernel
theorem dX11_about_14 : decode cX11_about 14 = .ok (.iload_n 1, 1) := by decide +kernel
theorem dX11_about_15 : decode cX11_about 15 = .ok (.aaload, 1) := by decide +kernel
theorem dX11_about_16 : decode cX11_about 16 = .ok (.astore_n 3, 1) := by decide +kernel
theorem dX11_about_17 : decode cX11_about 17 = .ok (.iload_n 2, 1) := by decide +kernel
theorem dX11_about_18 : decode cX11_about 18 = .ok (.tableswitch 85 0 3 #[30, 35, 59, 73], 30) := by decide +kernel
theorem dX11_about_48 : decode cX11_about 48 = .ok (.aload_n 3, 1) := by decide +kernel
theorem dX11_about_49 : decode cX11_about 49 = .ok (.getfield 194, 3) := by decide +kernel
theorem dX11_about_52 : decode cX11_about 52 = .ok (.ireturn, 1) := by decide +kernel
theorem dX11_about_53 : decode cX11_about 53 = .ok (.aload_n 0, 1) := by decide +kernel
theorem dX11_about_54 : decode cX11_about 54 = .ok (.getfield 14, 3) := by decide +kernel
theorem dX11_about_57 : decode cX11_about 57 = .ok (.aload_n 3, 1) := by decide +kernel
theorem dX11_about_58 : decode cX11_about 58 = .ok (.getfield 207, 3) := by decide +kernel
theorem dX11_about_61 : decode cX11_about 61 = .ok (.aload_n 3, 1) := by decide +kernel
theorem dX11_about_62 : decode cX11_about 62 = .ok (.getfield 194, 3) := by decide +kernel
theorem dX11_about_65 : decode cX11_about 65 = .ok (.invokevirtual 210, 3) := by decide +kernel
theorem dX11_about_68 : decode cX11_about 68 = .ok (.ifCond .eq 7, 3) := by decide +kernel
theorem dX11_about_71 : decode cX11_about 71 = .ok (.iconst 1, 1) := by decide +kernel
theorem dX11_about_72 : decode cX11_about 72 = .ok (.goto 4, 3) := by decide +kernel
theorem dX11_about_75 : decode cX11_about 75 = .ok (.iconst 0, 1) := by decide +kernel
theorem dX11_about_76 : decode cX11_about 76 = .ok (.ireturn, 1) := by decide +kernel
theorem dX11_about_77 : decode cX11_about 77 = .ok (.aload_n 0, 1) := by decide +kernel
theorem dX11_about_78 : decode cX11_about 78 = .ok (.aload_n 3, 1) := by decide +kernel
theorem dX11_about_79 : decode cX11_about 79 = .ok (.invokevirtual 214, 3) := by decide +kernel
theorem dX11_about_82 : decode cX11_about 82 = .ok (.ifCond .eq 7, 3) := by decide +kernel
theorem dX11_about_85 : decode cX11_about 85 = .ok (.iconst 1, 1) := by decide +kernel
theorem dX11_about_86 : decode cX11_about 86 = .ok (.goto 4, 3) := by decide +kernel
theorem dX11_about_89 : decode cX11_about 89 = .ok (.iconst 0, 1) := by decide +kernel
theorem dX11_about_90 : decode cX11_about 90 = .ok (.ireturn, 1) := by decide +kernel
theorem dX11_about_91 : decode cX11_about 91 = .ok (.aload_n 3, 1) := by decide +kernel
theorem dX11_about_92 : decode cX11_about 92 = .ok (.getfield 207, 3) := by decide +kernel
theorem dX11_about_95 : decode cX11_about 95 = .ok (.aload_n 3, 1) := by decide +kernel
theorem dX11_about_96 : decode cX11_about 96 = .ok (.getfield 194, 3) := by decide +kernel
theorem dX11_about_99 : decode cX11_about 99 = .ok (.invokestatic 218, 3) := by decide +kernel
theorem dX11_about_102 : decode cX11_about 102 = .ok (.ireturn, 1) := by decide +kernel
theorem dX11_about_103 : decode cX11_about 103 = .ok (.bipush (-2), 2) := by decide +kernel
theorem dX11_about_105 : decode cX11_about 105 = .ok (.ireturn, 1) := by decide +kernel
theorem dX11_entryOf_0 : decode cX11_entryOf 0 = .ok (.aload_n 0, 1) := by decide +kernel
theorem dX11_entryOf_1 : decode cX11_entryOf 1 = .ok (.iload_n 1, 1) := by decide +kernel
theorem dX11_entryOf_2 : decode cX11_entryOf 2 = .ok (.invokevirtual 191, 3) := by decide +kernel
theorem dX11_entryOf_5 : decode cX11_entryOf 5 = .ok (.ifCond .eq 15, 3) := by decide +kernel
theorem dX11_entryOf_8 : decode cX11_entryOf 8 = .ok (.aload_n 0, 1) := by decide +kernel
theorem dX11_entryOf_9 : decode cX11_entryOf 9 = .ok (.getfield 14, 3) := by decide +kernel
theorem dX11_entryOf_12 : decode cX11_entryOf 12 = .ok (.iload_n 2, 1) := by decide +kernel
theorem dX11_entryOf_13 : decode cX11_entryOf 13 = .ok (.iload_n 3, 1) := by decide +kernel
theorem dX11_entryOf_14 : decode cX11_entryOf 14 = .ok (.invokevirtual 83, 3) := by decide +kernel
theorem dX11_entryOf_17 : decode cX11_entryOf 17 = .ok (.ifCond .ne 7, 3) := by decide +kernel
theorem dX11_entryOf_20 : decode cX11_entryOf 20 = .ok (.ldc2_w 87, 3) := by decide +kernel
theorem dX11_entryOf_23 : decode cX11_entryOf 23 = .ok (.lreturn, 1) := by decide +kernel
theorem dX11_entryOf_24 : decode cX11_entryOf 24 = .ok (.aload_n 0, 1) := by decide +kernel
theorem dX11_entryOf_25 : decode cX11_entryOf 25 = .ok (.getfield 36, 3) := by decide +kernel
theorem dX11_entryOf_28 : decode cX11_entryOf 28 = .ok (.iload_n 1, 1) := by decide +kernel
theorem dX11_entryOf_29 : decode cX11_entryOf 29 = .ok (.aaload, 1) := by decide +kernel
theorem dX11_entryOf_30 : decode cX11_entryOf 30 = .ok (.getfield 224, 3) := by decide +kernel
theorem dX11_entryOf_33 : decode cX11_entryOf 33 = .ok (.aload_n 0, 1) := by decide +kernel
theorem dX11_entryOf_34 : decode cX11_entryOf 34 = .ok (.getfield 14, 3) := by decide +kernel
theorem dX11_entryOf_37 : decode cX11_entryOf 37 = .ok (.iload_n 2, 1) := by decide +kernel
theorem dX11_entryOf_38 : decode cX11_entryOf 38 = .ok (.iload_n 3, 1) := by decide +kernel
theorem dX11_entryOf_39 : decode cX11_entryOf 39 = .ok (.invokevirtual 99, 3) := by decide +kernel
theorem dX11_entryOf_42 : decode cX11_entryOf 42 = .ok (.laload, 1) := by decide +kernel
theorem dX11_entryOf_43 : decode cX11_entryOf 43 = .ok (.lreturn, 1) := by decide +kernel
theorem dX11_size_0 : decode cX11_size 0 = .ok (.aload_n 0, 1) := by decide +kernel
theorem dX11_size_1 : decode cX11_size 1 = .ok (.iload_n 1, 1) := by decide +kernel
theorem dX11_size_2 : decode cX11_size 2 = .ok (.invokevirtual 191, 3) := by decide +kernel
theorem dX11_size_5 : decode cX11_size 5 = .ok (.ifCond .eq 12, 3) := by decide +kernel
theorem dX11_size_8 : decode cX11_size 8 = .ok (.iload_n 2, 1) := by decide +kernel
theorem dX11_size_9 : decode cX11_size 9 = .ok (.iconst 0, 1) := by decide +kernel
theorem dX11_size_10 : decode cX11_size 10 = .ok (.iconst 1, 1) := by decide +kernel
theorem dX11_size_11 : decode cX11_size 11 = .ok (.invokestatic 55, 3) := by decide +kernel
theorem dX11_size_14 : decode cX11_size 14 = .ok (.ifCond .ne 7, 3) := by decide +kernel
theorem dX11_size_17 : decode cX11_size 17 = .ok (.ldc2_w 87, 3) := by decide +kernel
theorem dX11_size_20 : decode cX11_size 20 = .ok (.lreturn, 1) := by decide +kernel
theorem dX11_size_21 : decode cX11_size 21 = .ok (.iload_n 2, 1) := by decide +kernel
theorem dX11_size_22 : decode cX11_size 22 = .ok (.ifCond .ne 22, 3) := by decide +kernel
theorem dX11_size_25 : decode cX11_size 25 = .ok (.aload_n 0, 1) := by decide +kernel
theorem dX11_size_26 : decode cX11_size 26 = .ok (.getfield 14, 3) := by decide +kernel
theorem dX11_size_29 : decode cX11_size 29 = .ok (.aload_n 0, 1) := by decide +kernel
theorem dX11_size_30 : decode cX11_size 30 = .ok (.getfield 36, 3) := by decide +kernel
theorem dX11_size_33 : decode cX11_size 33 = .ok (.iload_n 1, 1) := by decide +kernel
theorem dX11_size_34 : decode cX11_size 34 = .ok (.aaload, 1) := by decide +kernel
theorem dX11_size_35 : decode cX11_size 35 = .ok (.getfield 224, 3) := by decide +kernel
theorem dX11_size_38 : decode cX11_size 38 = .ok (.invokevirtual 228, 3) := by decide +kernel
theorem dX11_size_41 : decode cX11_size 41 = .ok (.goto 19, 3) := by decide +kernel
theorem dX11_size_44 : decode cX11_size 44 = .ok (.aload_n 0, 1) := by decide +kernel
theorem dX11_size_45 : decode cX11_size 45 = .ok (.getfield 14, 3) := by decide +kernel
theorem dX11_size_48 : decode cX11_size 48 = .ok (.aload_n 0, 1) := by decide +kernel
theorem dX11_size_49 : decode cX11_size 49 = .ok (.getfield 36, 3) := by decide +kernel
theorem dX11_size_52 : decode cX11_size 52 = .ok (.iload_n 1, 1) := by decide +kernel
theorem dX11_size_53 : decode cX11_size 53 = .ok (.aaload, 1) := by decide +kernel
theorem dX11_size_54 : decode cX11_size 54 = .ok (.getfield 224, 3) := by decide +kernel
theorem dX11_size_57 : decode cX11_size 57 = .ok (.invokevirtual 232, 3) := by decide +kernel
theorem dX11_size_60 : decode cX11_size 60 = .ok (.lreturn, 1) := by decide +kernel
theorem dX11_sheet_0 : decode cX11_sheet 0 = .ok (.aload_n 0, 1) := by decide +kernel
theorem dX11_sheet_1 : decode cX11_sheet 1 = .ok (.aload_n 0, 1) := by decide +kernel
theorem dX11_sheet_2 : decode cX11_sheet 2 = .ok (.iload_n 1, 1) := by decide +kernel
theorem dX11_sheet_3 : decode cX11_sheet 3 = .ok (.iload_n 2, 1) := by decide +kernel
theorem dX11_sheet_4 : decode cX11_sheet 4 = .ok (.iload_n 3, 1) := by decide +kernel
theorem dX11_sheet_5 : decode cX11_sheet 5 = .ok (.invokevirtual 235, 3) := by decide +kernel
theorem dX11_sheet_8 : decode cX11_sheet 8 = .ok (.invokevirtual 75, 3) := by decide +kernel
theorem dX11_sheet_11 : decode cX11_sheet 11 = .ok (.ireturn, 1) := by decide +kernel
theorem dX11_lose_0 : decode cX11_lose 0 = .ok (.iload_n 1, 1) := by decide +kernel
theorem dX11_lose_1 : decode cX11_lose 1 = .ok (.invokestatic 238, 3) := by decide +kernel
theorem dX11_lose_4 : decode cX11_lose 4 = .ok (.ifCond .ne 5, 3) := by decide +kernel
theorem dX11_lose_7 : decode cX11_lose 7 = .ok (.iconst (-1), 1) := by decide +kernel
theorem dX11_lose_8 : decode cX11_lose 8 = .ok (.ireturn, 1) := by decide +kernel
theorem dX11_lose_9 : decode cX11_lose 9 = .ok (.aload_n 0, 1) := by decide +kernel
theorem dX11_lose_10 : decode cX11_lose 10 = .ok (.getfield 42, 3) := by decide +kernel
theorem dX11_lose_13 : decode cX11_lose 13 = .ok (.iload_n 1, 1) := by decide +kernel
theorem dX11_lose_14 : decode cX11_lose 14 = .ok (.aaload, 1) := by decide +kernel
theorem dX11_lose_15 : decode cX11_lose 15 = .ok (.invokevirtual 241, 3) := by decide +kernel
theorem dX11_lose_18 : decode cX11_lose 18 = .ok (.ifCond .eq 7, 3) := by decide +kernel
theorem dX11_lose_21 : decode cX11_lose 21 = .ok (.iconst 1, 1) := by decide +kernel
theorem dX11_lose_22 : decode cX11_lose 22 = .ok (.goto 4, 3) := by decide +kernel
theorem dX11_lose_25 : decode cX11_lose 25 = .ok (.iconst 0, 1) := by decide +kernel
theorem dX11_lose_26 : decode cX11_lose 26 = .ok (.ireturn, 1) := by decide +kernel
theorem dX11_put_0 : decode cX11_put 0 = .ok (.aload_n 0, 1) := by decide +kernel
theorem dX11_put_1 : decode cX11_put 1 = .ok (.aload_n 0, 1) := by decide +kernel
theorem dX11_put_2 : decode cX11_put 2 = .ok (.iload_n 1, 1) := by decide +kernel
theorem dX11_put_3 : decode cX11_put 3 = .ok (.iload_n 2, 1) := by decide +kernel
theorem dX11_put_4 : decode cX11_put 4 = .ok (.iload_n 3, 1) := by decide +kernel
theorem dX11_put_5 : decode cX11_put 5 = .ok (.invokevirtual 244, 3) := by decide +kernel
theorem dX11_put_8 : decode cX11_put 8 = .ok (.invokevirtual 75, 3) := by decide +kernel
theorem dX11_put_11 : decode cX11_put 11 = .ok (.ireturn, 1) := by decide +kernel
theorem dX11_at_0 : decode cX11_at 0 = .ok (.aload_n 0, 1) := by decide +kernel
theorem dX11_at_1 : decode cX11_at 1 = .ok (.aload_n 0, 1) := by decide +kernel
theorem dX11_at_2 : decode cX11_at 2 = .ok (.iload_n 1, 1) := by decide +kernel
theorem dX11_at_3 : decode cX11_at 3 = .ok (.iload_n 3, 1) := by decide +kernel
theorem dX11_at_4 : decode cX11_at 4 = .ok (.iload_n 2, 1) := by decide +kernel
theorem dX11_at_5 : decode cX11_at 5 = .ok (.iconst 1, 1) := by decide +kernel
theorem dX11_at_6 : decode cX11_at 6 = .ok (.invokevirtual 247, 3) := by decide +kernel
theorem dX11_at_9 : decode cX11_at 9 = .ok (.invokevirtual 75, 3) := by decide +kernel
theorem dX11_at_12 : decode cX11_at 12 = .ok (.istore 4, 2) := by decide +kernel
theorem dX11_at_14 : decode cX11_at 14 = .ok (.iload 4, 2) := by decide +kernel
theorem dX11_at_16 : decode cX11_at 16 = .ok (.iconst 1, 1) := by decide +kernel
theorem dX11_at_17 : decode cX11_at 17 = .ok (.if_icmp .ne 18, 3) := by decide +kernel
theorem dX11_at_20 : decode cX11_at 20 = .ok (.aload_n 0, 1) := by decide +kernel
theorem dX11_at_21 : decode cX11_at 21 = .ok (.getfield 42, 3) := by decide +kernel
theorem dX11_at_24 : decode cX11_at 24 = .ok (.iload_n 1, 1) := by decide +kernel
theorem dX11_at_25 : decode cX11_at 25 = .ok (.aaload, 1) := by decide +kernel
theorem dX11_at_26 : decode cX11_at 26 = .ok (.getfield 250, 3) := by decide +kernel
theorem dX11_at_29 : decode cX11_at 29 = .ok (.iload_n 2, 1) := by decide +kernel
theorem dX11_at_30 : decode cX11_at 30 = .ok (.iaload, 1) := by decide +kernel
theorem dX11_at_31 : decode cX11_at 31 = .ok (.i2l, 1) := by decide +kernel
theorem dX11_at_32 : decode cX11_at 32 = .ok (.goto 6, 3) := by decide +kernel
theorem dX11_at_35 : decode cX11_at 35 = .ok (.ldc2_w 87, 3) := by decide +kernel
theorem dX11_at_38 : decode cX11_at 38 = .ok (.lreturn, 1) := by decide +kernel
theorem dX11_tell_0 : decode cX11_tell 0 = .ok (.aload_n 0, 1) := by decide +kernel
theorem dX11_tell_1 : decode cX11_tell 1 = .ok (.getfield 14, 3) := by decide +kernel
theorem dX11_tell_4 : decode cX11_tell 4 = .ok (.iload_n 1, 1) := by decide +kernel
theorem dX11_tell_5 : decode cX11_tell 5 = .ok (.invokevirtual 79, 3) := by decide +kernel
theorem dX11_tell_8 : decode cX11_tell 8 = .ok (.ifCond .eq 21, 3) := by decide +kernel
theorem dX11_tell_11 : decode cX11_tell 11 = .ok (.aload_n 0, 1) := by decide +kernel
theorem dX11_tell_12 : decode cX11_tell 12 = .ok (.getfield 14, 3) := by decide +kernel
theorem dX11_tell_15 : decode cX11_tell 15 = .ok (.iload_n 1, 1) := by decide +kernel
theorem dX11_tell_16 : decode cX11_tell 16 = .ok (.invokevirtual 89, 3) := by decide +kernel
theorem dX11_tell_19 : decode cX11_tell 19 = .ok (.aload_n 0, 1) := by decide +kernel
theorem dX11_tell_20 : decode cX11_tell 20 = .ok (.getfield 49, 3) := by decide +kernel
theorem dX11_tell_23 : decode cX11_tell 23 = .ok (.invokevirtual 253, 3) := by decide +kernel
theorem dX11_tell_26 : decode cX11_tell 26 = .ok (.goto 4, 3) := by decide +kernel
theorem dX11_tell_29 : decode cX11_tell 29 = .ok (.iconst (-1), 1) := by decide +kernel
theorem dX11_tell_30 : decode cX11_tell 30 = .ok (.ireturn, 1) := by decide +kernel
theorem dX11_weigh_0 : decode cX11_weigh 0 = .ok (.aload_n 0, 1) := by decide +kernel
theorem dX11_weigh_1 : decode cX11_weigh 1 = .ok (.getfield 14, 3) := by decide +kernel
theorem dX11_weigh_4 : decode cX11_weigh 4 = .ok (.iload_n 1, 1) := by decide +kernel
theorem dX11_weigh_5 : decode cX11_weigh 5 = .ok (.invokevirtual 79, 3) := by decide +kernel
theorem dX11_weigh_8 : decode cX11_weigh 8 = .ok (.ifCond .eq 21, 3) := by decide +kernel
theorem dX11_weigh_11 : decode cX11_weigh 11 = .ok (.aload_n 0, 1) := by decide +kernel
theorem dX11_weigh_12 : decode cX11_weigh 12 = .ok (.getfield 14, 3) := by decide +kernel
theorem dX11_weigh_15 : decode cX11_weigh 15 = .ok (.iload_n 1, 1) := by decide +kernel
theorem dX11_weigh_16 : decode cX11_weigh 16 = .ok (.invokevirtual 89, 3) := by decide +kernel
theorem dX11_weigh_19 : decode cX11_weigh 19 = .ok (.aload_n 0, 1) := by decide +kernel
theorem dX11_weigh_20 : decode cX11_weigh 20 = .ok (.getfield 49, 3) := by decide +kernel
theorem dX11_weigh_23 : decode cX11_weigh 23 = .ok (.invokevirtual 257, 3) := by decide +kernel
theorem dX11_weigh_26 : decode cX11_weigh 26 = .ok (.goto 4, 3) := by decide +kernel
theorem dX11_weigh_29 : decode cX11_weigh 29 = .ok (.iconst (-1), 1) := by decide +kernel
theorem dX11_weigh_30 : decode cX11_weigh 30 = .ok (.ireturn, 1) := by decide +kernel
theorem dX11_as_0 : decode cX11_as 0 = .ok (.aload_n 0, 1) := by decide +kernel
theorem dX11_as_1 : decode cX11_as 1 = .ok (.aload_n 0, 1) := by decide +kernel
theorem dX11_as_2 : decode cX11_as 2 = .ok (.iload_n 1, 1) := by decide +kernel
theorem dX11_as_3 : decode cX11_as 3 = .ok (.iload_n 2, 1) := by decide +kernel
theorem dX11_as_4 : decode cX11_as 4 = .ok (.invokevirtual 260, 3) := by decide +kernel
theorem dX11_as_7 : decode cX11_as 7 = .ok (.invokevirtual 75, 3) := by decide +kernel
theorem dX11_as_10 : decode cX11_as 10 = .ok (.ireturn, 1) := by decide +kernel
theorem dX11_history_0 : decode cX11_history 0 = .ok (.aload_n 0, 1) := by decide +kernel
theorem dX11_history_1 : decode cX11_history 1 = .ok (.getfield 49, 3) := by decide +kernel
theorem dX11_history_4 : decode cX11_history 4 = .ok (.getfield 263, 3) := by decide +kernel
theorem dX11_history_7 : decode cX11_history 7 = .ok (.ireturn, 1) := by decide +kernel
theorem dX11_fault_0 : decode cX11_fault 0 = .ok (.aload_n 0, 1) := by decide +kernel
theorem dX11_fault_1 : decode cX11_fault 1 = .ok (.getfield 266, 3) := by decide +kernel
theorem dX11_fault_4 : decode cX11_fault 4 = .ok (.ireturn, 1) := by decide +kernel
theorem dX11_told_0 : decode cX11_told 0 = .ok (.iload_n 1, 1) := by decide +kernel
theorem dX11_told_1 : decode cX11_told 1 = .ok (.tableswitch 72 0 4 #[35, 43, 51, 59, 64], 35) := by decide +kernel
theorem dX11_told_36 : decode cX11_told 36 = .ok (.aload_n 0, 1) := by decide +kernel
theorem dX11_told_37 : decode cX11_told 37 = .ok (.getfield 14, 3) := by decide +kernel
theorem dX11_told_40 : decode cX11_told 40 = .ok (.invokevirtual 151, 3) := by decide +kernel
theorem dX11_told_43 : decode cX11_told 43 = .ok (.ireturn, 1) := by decide +kernel
theorem dX11_told_44 : decode cX11_told 44 = .ok (.aload_n 0, 1) := by decide +kernel
theorem dX11_told_45 : decode cX11_told 45 = .ok (.getfield 14, 3) := by decide +kernel
theorem dX11_told_48 : decode cX11_told 48 = .ok (.invokevirtual 269, 3) := by decide +kernel
theorem dX11_told_51 : decode cX11_told 51 = .ok (.ireturn, 1) := by decide +kernel
theorem dX11_told_52 : decode cX11_told 52 = .ok (.aload_n 0, 1) := by decide +kernel
theorem dX11_told_53 : decode cX11_told 53 = .ok (.getfield 14, 3) := by decide +kernel
theorem dX11_told_56 : decode cX11_told 56 = .ok (.invokevirtual 147, 3) := by decide +kernel
theorem dX11_told_59 : decode cX11_told 59 = .ok (.ireturn, 1) := by decide +kernel
theorem dX11_told_60 : decode cX11_told 60 = .ok (.aload_n 0, 1) := by decide +kernel
theorem dX11_told_61 : decode cX11_told 61 = .ok (.getfield 67, 3) := by decide +kernel
theorem dX11_told_64 : decode cX11_told 64 = .ok (.ireturn, 1) := by decide +kernel
theorem dX11_told_65 : decode cX11_told 65 = .ok (.aload_n 0, 1) := by decide +kernel
theorem dX11_told_66 : decode cX11_told 66 = .ok (.getfield 14, 3) := by decide +kernel
theorem dX11_told_69 : decode cX11_told 69 = .ok (.invokevirtual 272, 3) := by decide +kernel
theorem dX11_told_72 : decode cX11_told 72 = .ok (.ireturn, 1) := by decide +kernel
theorem dX11_told_73 : decode cX11_told 73 = .ok (.bipush (-2), 2) := by decide +kernel
theorem dX11_told_75 : decode cX11_told 75 = .ok (.ireturn, 1) := by decide +kernel
theorem dX11_isWithin_0 : decode cX11_isWithin 0 = .ok (.iload_n 0, 1) := by decide +kernel
