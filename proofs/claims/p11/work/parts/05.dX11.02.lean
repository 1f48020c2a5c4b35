theorem dX11_isWithin_1 : decode cX11_isWithin 1 = .ok (.iload_n 1, 1) := by decide +kernel
theorem dX11_isWithin_2 : decode cX11_isWithin 2 = .ok (.if_icmp .lt 12, 3) := by decide +kernel
theorem dX11_isWithin_5 : decode cX11_isWithin 5 = .ok (.iload_n 0, 1) := by decide +kernel
theorem dX11_isWithin_6 : decode cX11_isWithin 6 = .ok (.iload_n 2, 1) := by decide +kernel
theorem dX11_isWithin_7 : decode cX11_isWithin 7 = .ok (.if_icmp .gt 7, 3) := by decide +kernel
theorem dX11_isWithin_10 : decode cX11_isWithin 10 = .ok (.iconst 1, 1) := by decide +kernel
theorem dX11_isWithin_11 : decode cX11_isWithin 11 = .ok (.goto 4, 3) := by decide +kernel
theorem dX11_isWithin_14 : decode cX11_isWithin 14 = .ok (.iconst 0, 1) := by decide +kernel
theorem dX11_isWithin_15 : decode cX11_isWithin 15 = .ok (.ireturn, 1) := by decide +kernel
theorem dX11_isSheet_0 : decode cX11_isSheet 0 = .ok (.iload_n 0, 1) := by decide +kernel
theorem dX11_isSheet_1 : decode cX11_isSheet 1 = .ok (.iconst 0, 1) := by decide +kernel
theorem dX11_isSheet_2 : decode cX11_isSheet 2 = .ok (.iconst 3, 1) := by decide +kernel
theorem dX11_isSheet_3 : decode cX11_isSheet 3 = .ok (.invokestatic 55, 3) := by decide +kernel
theorem dX11_isSheet_6 : decode cX11_isSheet 6 = .ok (.ireturn, 1) := by decide +kernel
theorem dX11_isLane_0 : decode cX11_isLane 0 = .ok (.iload_n 0, 1) := by decide +kernel
theorem dX11_isLane_1 : decode cX11_isLane 1 = .ok (.iconst 0, 1) := by decide +kernel
theorem dX11_isLane_2 : decode cX11_isLane 2 = .ok (.iconst 2, 1) := by decide +kernel
theorem dX11_isLane_3 : decode cX11_isLane 3 = .ok (.invokestatic 55, 3) := by decide +kernel
theorem dX11_isLane_6 : decode cX11_isLane 6 = .ok (.ireturn, 1) := by decide +kernel
theorem dX11_faultAnswer_0 : decode cX11_faultAnswer 0 = .ok (.bipush (-10), 2) := by decide +kernel
theorem dX11_faultAnswer_2 : decode cX11_faultAnswer 2 = .ok (.iload_n 0, 1) := by decide +kernel
theorem dX11_faultAnswer_3 : decode cX11_faultAnswer 3 = .ok (.isub, 1) := by decide +kernel
theorem dX11_faultAnswer_4 : decode cX11_faultAnswer 4 = .ok (.ireturn, 1) := by decide +kernel
theorem dX11_settle_0 : decode cX11_settle 0 = .ok (.aload_n 0, 1) := by decide +kernel
theorem dX11_settle_1 : decode cX11_settle 1 = .ok (.iload_n 1, 1) := by decide +kernel
theorem dX11_settle_2 : decode cX11_settle 2 = .ok (.bipush (-14), 2) := by decide +kernel
theorem dX11_settle_4 : decode cX11_settle 4 = .ok (.bipush (-11), 2) := by decide +kernel
theorem dX11_settle_6 : decode cX11_settle 6 = .ok (.invokestatic 55, 3) := by decide +kernel
theorem dX11_settle_9 : decode cX11_settle 9 = .ok (.ifCond .eq 10, 3) := by decide +kernel
theorem dX11_settle_12 : decode cX11_settle 12 = .ok (.bipush (-10), 2) := by decide +kernel
theorem dX11_settle_14 : decode cX11_settle 14 = .ok (.iload_n 1, 1) := by decide +kernel
theorem dX11_settle_15 : decode cX11_settle 15 = .ok (.isub, 1) := by decide +kernel
theorem dX11_settle_16 : decode cX11_settle 16 = .ok (.goto 4, 3) := by decide +kernel
theorem dX11_settle_19 : decode cX11_settle 19 = .ok (.iconst 0, 1) := by decide +kernel
theorem dX11_settle_20 : decode cX11_settle 20 = .ok (.putfield 266, 3) := by decide +kernel
theorem dX11_settle_23 : decode cX11_settle 23 = .ok (.iload_n 1, 1) := by decide +kernel
theorem dX11_settle_24 : decode cX11_settle 24 = .ok (.ireturn, 1) := by decide +kernel
theorem dX11_lookAtCells_0 : decode cX11_lookAtCells 0 = .ok (.iload_n 1, 1) := by decide +kernel
theorem dX11_lookAtCells_1 : decode cX11_lookAtCells 1 = .ok (.invokestatic 238, 3) := by decide +kernel
theorem dX11_lookAtCells_4 : decode cX11_lookAtCells 4 = .ok (.ifCond .ne 5, 3) := by decide +kernel
theorem dX11_lookAtCells_7 : decode cX11_lookAtCells 7 = .ok (.iconst (-1), 1) := by decide +kernel
theorem dX11_lookAtCells_8 : decode cX11_lookAtCells 8 = .ok (.ireturn, 1) := by decide +kernel
theorem dX11_lookAtCells_9 : decode cX11_lookAtCells 9 = .ok (.iload_n 2, 1) := by decide +kernel
theorem dX11_lookAtCells_10 : decode cX11_lookAtCells 10 = .ok (.invokestatic 275, 3) := by decide +kernel
theorem dX11_lookAtCells_13 : decode cX11_lookAtCells 13 = .ok (.ifCond .ne 6, 3) := by decide +kernel
theorem dX11_lookAtCells_16 : decode cX11_lookAtCells 16 = .ok (.bipush (-2), 2) := by decide +kernel
theorem dX11_lookAtCells_18 : decode cX11_lookAtCells 18 = .ok (.ireturn, 1) := by decide +kernel
theorem dX11_lookAtCells_19 : decode cX11_lookAtCells 19 = .ok (.aload_n 0, 1) := by decide +kernel
theorem dX11_lookAtCells_20 : decode cX11_lookAtCells 20 = .ok (.getfield 42, 3) := by decide +kernel
theorem dX11_lookAtCells_23 : decode cX11_lookAtCells 23 = .ok (.iload_n 1, 1) := by decide +kernel
theorem dX11_lookAtCells_24 : decode cX11_lookAtCells 24 = .ok (.aaload, 1) := by decide +kernel
theorem dX11_lookAtCells_25 : decode cX11_lookAtCells 25 = .ok (.astore 5, 2) := by decide +kernel
theorem dX11_lookAtCells_27 : decode cX11_lookAtCells 27 = .ok (.aload 5, 2) := by decide +kernel
theorem dX11_lookAtCells_29 : decode cX11_lookAtCells 29 = .ok (.getfield 278, 3) := by decide +kernel
theorem dX11_lookAtCells_32 : decode cX11_lookAtCells 32 = .ok (.ifCond .eq 17, 3) := by decide +kernel
theorem dX11_lookAtCells_35 : decode cX11_lookAtCells 35 = .ok (.aload 5, 2) := by decide +kernel
theorem dX11_lookAtCells_37 : decode cX11_lookAtCells 37 = .ok (.getfield 281, 3) := by decide +kernel
theorem dX11_lookAtCells_40 : decode cX11_lookAtCells 40 = .ok (.iload_n 2, 1) := by decide +kernel
theorem dX11_lookAtCells_41 : decode cX11_lookAtCells 41 = .ok (.if_icmp .eq 8, 3) := by decide +kernel
theorem dX11_lookAtCells_44 : decode cX11_lookAtCells 44 = .ok (.iconst 2, 1) := by decide +kernel
theorem dX11_lookAtCells_45 : decode cX11_lookAtCells 45 = .ok (.invokestatic 284, 3) := by decide +kernel
theorem dX11_lookAtCells_48 : decode cX11_lookAtCells 48 = .ok (.ireturn, 1) := by decide +kernel
theorem dX11_lookAtCells_49 : decode cX11_lookAtCells 49 = .ok (.aload 5, 2) := by decide +kernel
theorem dX11_lookAtCells_51 : decode cX11_lookAtCells 51 = .ok (.getfield 278, 3) := by decide +kernel
theorem dX11_lookAtCells_54 : decode cX11_lookAtCells 54 = .ok (.ifCond .ne 8, 3) := by decide +kernel
theorem dX11_lookAtCells_57 : decode cX11_lookAtCells 57 = .ok (.iconst 1, 1) := by decide +kernel
theorem dX11_lookAtCells_58 : decode cX11_lookAtCells 58 = .ok (.invokestatic 284, 3) := by decide +kernel
theorem dX11_lookAtCells_61 : decode cX11_lookAtCells 61 = .ok (.ireturn, 1) := by decide +kernel
theorem dX11_lookAtCells_62 : decode cX11_lookAtCells 62 = .ok (.iload 4, 2) := by decide +kernel
theorem dX11_lookAtCells_64 : decode cX11_lookAtCells 64 = .ok (.ifCond .ge 8, 3) := by decide +kernel
theorem dX11_lookAtCells_67 : decode cX11_lookAtCells 67 = .ok (.iconst 4, 1) := by decide +kernel
theorem dX11_lookAtCells_68 : decode cX11_lookAtCells 68 = .ok (.invokestatic 284, 3) := by decide +kernel
theorem dX11_lookAtCells_71 : decode cX11_lookAtCells 71 = .ok (.ireturn, 1) := by decide +kernel
theorem dX11_lookAtCells_72 : decode cX11_lookAtCells 72 = .ok (.aload 5, 2) := by decide +kernel
theorem dX11_lookAtCells_74 : decode cX11_lookAtCells 74 = .ok (.iload_n 3, 1) := by decide +kernel
theorem dX11_lookAtCells_75 : decode cX11_lookAtCells 75 = .ok (.iload 4, 2) := by decide +kernel
theorem dX11_lookAtCells_77 : decode cX11_lookAtCells 77 = .ok (.invokevirtual 287, 3) := by decide +kernel
theorem dX11_lookAtCells_80 : decode cX11_lookAtCells 80 = .ok (.ifCond .eq 7, 3) := by decide +kernel
theorem dX11_lookAtCells_83 : decode cX11_lookAtCells 83 = .ok (.iconst 1, 1) := by decide +kernel
theorem dX11_lookAtCells_84 : decode cX11_lookAtCells 84 = .ok (.goto 7, 3) := by decide +kernel
theorem dX11_lookAtCells_87 : decode cX11_lookAtCells 87 = .ok (.iconst 3, 1) := by decide +kernel
theorem dX11_lookAtCells_88 : decode cX11_lookAtCells 88 = .ok (.invokestatic 284, 3) := by decide +kernel
theorem dX11_lookAtCells_91 : decode cX11_lookAtCells 91 = .ok (.ireturn, 1) := by decide +kernel
theorem dX11_addTable_0 : decode cX11_addTable 0 = .ok (.aload_n 0, 1) := by decide +kernel
theorem dX11_addTable_1 : decode cX11_addTable 1 = .ok (.getfield 14, 3) := by decide +kernel
theorem dX11_addTable_4 : decode cX11_addTable 4 = .ok (.invokevirtual 290, 3) := by decide +kernel
theorem dX11_addTable_7 : decode cX11_addTable 7 = .ok (.istore 4, 2) := by decide +kernel
theorem dX11_addTable_9 : decode cX11_addTable 9 = .ok (.aload_n 0, 1) := by decide +kernel
theorem dX11_addTable_10 : decode cX11_addTable 10 = .ok (.iload_n 1, 1) := by decide +kernel
theorem dX11_addTable_11 : decode cX11_addTable 11 = .ok (.iload_n 2, 1) := by decide +kernel
theorem dX11_addTable_12 : decode cX11_addTable 12 = .ok (.iload_n 3, 1) := by decide +kernel
theorem dX11_addTable_13 : decode cX11_addTable 13 = .ok (.iload 4, 2) := by decide +kernel
theorem dX11_addTable_15 : decode cX11_addTable 15 = .ok (.invokevirtual 247, 3) := by decide +kernel
theorem dX11_addTable_18 : decode cX11_addTable 18 = .ok (.istore 5, 2) := by decide +kernel
theorem dX11_addTable_20 : decode cX11_addTable 20 = .ok (.iload 5, 2) := by decide +kernel
theorem dX11_addTable_22 : decode cX11_addTable 22 = .ok (.iconst 1, 1) := by decide +kernel
theorem dX11_addTable_23 : decode cX11_addTable 23 = .ok (.if_icmp .eq 6, 3) := by decide +kernel
theorem dX11_addTable_26 : decode cX11_addTable 26 = .ok (.iload 5, 2) := by decide +kernel
theorem dX11_addTable_28 : decode cX11_addTable 28 = .ok (.ireturn, 1) := by decide +kernel
theorem dX11_addTable_29 : decode cX11_addTable 29 = .ok (.aload_n 0, 1) := by decide +kernel
theorem dX11_addTable_30 : decode cX11_addTable 30 = .ok (.getfield 42, 3) := by decide +kernel
theorem dX11_addTable_33 : decode cX11_addTable 33 = .ok (.iload_n 1, 1) := by decide +kernel
theorem dX11_addTable_34 : decode cX11_addTable 34 = .ok (.aaload, 1) := by decide +kernel
theorem dX11_addTable_35 : decode cX11_addTable 35 = .ok (.getfield 250, 3) := by decide +kernel
theorem dX11_addTable_38 : decode cX11_addTable 38 = .ok (.astore 6, 2) := by decide +kernel
theorem dX11_addTable_40 : decode cX11_addTable 40 = .ok (.iconst 0, 1) := by decide +kernel
theorem dX11_addTable_41 : decode cX11_addTable 41 = .ok (.istore 7, 2) := by decide +kernel
theorem dX11_addTable_43 : decode cX11_addTable 43 = .ok (.iload 7, 2) := by decide +kernel
theorem dX11_addTable_45 : decode cX11_addTable 45 = .ok (.iload 4, 2) := by decide +kernel
theorem dX11_addTable_47 : decode cX11_addTable 47 = .ok (.if_icmp .ge 29, 3) := by decide +kernel
theorem dX11_addTable_50 : decode cX11_addTable 50 = .ok (.aload 6, 2) := by decide +kernel
theorem dX11_addTable_52 : decode cX11_addTable 52 = .ok (.iload_n 3, 1) := by decide +kernel
theorem dX11_addTable_53 : decode cX11_addTable 53 = .ok (.iload 7, 2) := by decide +kernel
theorem dX11_addTable_55 : decode cX11_addTable 55 = .ok (.iadd, 1) := by decide +kernel
theorem dX11_addTable_56 : decode cX11_addTable 56 = .ok (.iaload, 1) := by decide +kernel
theorem dX11_addTable_57 : decode cX11_addTable 57 = .ok (.bipush (-9), 2) := by decide +kernel
theorem dX11_addTable_59 : decode cX11_addTable 59 = .ok (.bipush 9, 2) := by decide +kernel
theorem dX11_addTable_61 : decode cX11_addTable 61 = .ok (.invokestatic 55, 3) := by decide +kernel
theorem dX11_addTable_64 : decode cX11_addTable 64 = .ok (.ifCond .ne 6, 3) := by decide +kernel
theorem dX11_addTable_67 : decode cX11_addTable 67 = .ok (.bipush (-2), 2) := by decide +kernel
theorem dX11_addTable_69 : decode cX11_addTable 69 = .ok (.ireturn, 1) := by decide +kernel
theorem dX11_addTable_70 : decode cX11_addTable 70 = .ok (.iinc 7 1, 3) := by decide +kernel
theorem dX11_addTable_73 : decode cX11_addTable 73 = .ok (.goto (-30), 3) := by decide +kernel
theorem dX11_addTable_76 : decode cX11_addTable 76 = .ok (.aload_n 0, 1) := by decide +kernel
theorem dX11_addTable_77 : decode cX11_addTable 77 = .ok (.getfield 14, 3) := by decide +kernel
theorem dX11_addTable_80 : decode cX11_addTable 80 = .ok (.invokevirtual 151, 3) := by decide +kernel
theorem dX11_addTable_83 : decode cX11_addTable 83 = .ok (.bipush 6, 2) := by decide +kernel
theorem dX11_addTable_85 : decode cX11_addTable 85 = .ok (.if_icmp .lt 6, 3) := by decide +kernel
theorem dX11_addTable_88 : decode cX11_addTable 88 = .ok (.bipush (-4), 2) := by decide +kernel
theorem dX11_addTable_90 : decode cX11_addTable 90 = .ok (.ireturn, 1) := by decide +kernel
theorem dX11_addTable_91 : decode cX11_addTable 91 = .ok (.aload_n 0, 1) := by decide +kernel
theorem dX11_addTable_92 : decode cX11_addTable 92 = .ok (.getfield 23, 3) := by decide +kernel
theorem dX11_addTable_95 : decode cX11_addTable 95 = .ok (.invokevirtual 63, 3) := by decide +kernel
theorem dX11_addTable_98 : decode cX11_addTable 98 = .ok (.aload_n 0, 1) := by decide +kernel
theorem dX11_addTable_99 : decode cX11_addTable 99 = .ok (.getfield 30, 3) := by decide +kernel
theorem dX11_addTable_102 : decode cX11_addTable 102 = .ok (.invokevirtual 66, 3) := by decide +kernel
theorem dX11_addTable_105 : decode cX11_addTable 105 = .ok (.aload_n 0, 1) := by decide +kernel
theorem dX11_addTable_106 : decode cX11_addTable 106 = .ok (.getfield 14, 3) := by decide +kernel
theorem dX11_addTable_109 : decode cX11_addTable 109 = .ok (.aload 6, 2) := by decide +kernel
theorem dX11_addTable_111 : decode cX11_addTable 111 = .ok (.iload_n 3, 1) := by decide +kernel
theorem dX11_addTable_112 : decode cX11_addTable 112 = .ok (.invokevirtual 293, 3) := by decide +kernel
theorem dX11_addTable_115 : decode cX11_addTable 115 = .ok (.ireturn, 1) := by decide +kernel
theorem dX11_keepWord_0 : decode cX11_keepWord 0 = .ok (.aload_n 0, 1) := by decide +kernel
theorem dX11_keepWord_1 : decode cX11_keepWord 1 = .ok (.iload_n 1, 1) := by decide +kernel
theorem dX11_keepWord_2 : decode cX11_keepWord 2 = .ok (.iload_n 2, 1) := by decide +kernel
theorem dX11_keepWord_3 : decode cX11_keepWord 3 = .ok (.iload_n 3, 1) := by decide +kernel
theorem dX11_keepWord_4 : decode cX11_keepWord 4 = .ok (.iload 4, 2) := by decide +kernel
theorem dX11_keepWord_6 : decode cX11_keepWord 6 = .ok (.invokevirtual 247, 3) := by decide +kernel
theorem dX11_keepWord_9 : decode cX11_keepWord 9 = .ok (.istore 5, 2) := by decide +kernel
theorem dX11_keepWord_11 : decode cX11_keepWord 11 = .ok (.iload 5, 2) := by decide +kernel
theorem dX11_keepWord_13 : decode cX11_keepWord 13 = .ok (.iconst 1, 1) := by decide +kernel
theorem dX11_keepWord_14 : decode cX11_keepWord 14 = .ok (.if_icmp .eq 6, 3) := by decide +kernel
theorem dX11_keepWord_17 : decode cX11_keepWord 17 = .ok (.iload 5, 2) := by decide +kernel
theorem dX11_keepWord_19 : decode cX11_keepWord 19 = .ok (.ireturn, 1) := by decide +kernel
theorem dX11_keepWord_20 : decode cX11_keepWord 20 = .ok (.iload 4, 2) := by decide +kernel
theorem dX11_keepWord_22 : decode cX11_keepWord 22 = .ok (.iconst 1, 1) := by decide +kernel
theorem dX11_keepWord_23 : decode cX11_keepWord 23 = .ok (.bipush 12, 2) := by decide +kernel
theorem dX11_keepWord_25 : decode cX11_keepWord 25 = .ok (.invokestatic 55, 3) := by decide +kernel
theorem dX11_keepWord_28 : decode cX11_keepWord 28 = .ok (.ifCond .ne 6, 3) := by decide +kernel
theorem dX11_keepWord_31 : decode cX11_keepWord 31 = .ok (.bipush (-2), 2) := by decide +kernel
theorem dX11_keepWord_33 : decode cX11_keepWord 33 = .ok (.ireturn, 1) := by decide +kernel
theorem dX11_keepWord_34 : decode cX11_keepWord 34 = .ok (.aload_n 0, 1) := by decide +kernel
theorem dX11_keepWord_35 : decode cX11_keepWord 35 = .ok (.getfield 42, 3) := by decide +kernel
theorem dX11_keepWord_38 : decode cX11_keepWord 38 = .ok (.iload_n 1, 1) := by decide +kernel
theorem dX11_keepWord_39 : decode cX11_keepWord 39 = .ok (.aaload, 1) := by decide +kernel
theorem dX11_keepWord_40 : decode cX11_keepWord 40 = .ok (.getfield 250, 3) := by decide +kernel
theorem dX11_keepWord_43 : decode cX11_keepWord 43 = .ok (.astore 6, 2) := by decide +kernel
theorem dX11_keepWord_45 : decode cX11_keepWord 45 = .ok (.iconst 0, 1) := by decide +kernel
theorem dX11_keepWord_46 : decode cX11_keepWord 46 = .ok (.istore 7, 2) := by decide +kernel
theorem dX11_keepWord_48 : decode cX11_keepWord 48 = .ok (.iload 7, 2) := by decide +kernel
theorem dX11_keepWord_50 : decode cX11_keepWord 50 = .ok (.iload 4, 2) := by decide +kernel
theorem dX11_keepWord_52 : decode cX11_keepWord 52 = .ok (.if_icmp .ge 28, 3) := by decide +kernel
theorem dX11_keepWord_55 : decode cX11_keepWord 55 = .ok (.aload_n 0, 1) := by decide +kernel
theorem dX11_keepWord_56 : decode cX11_keepWord 56 = .ok (.getfield 14, 3) := by decide +kernel
theorem dX11_keepWord_59 : decode cX11_keepWord 59 = .ok (.aload 6, 2) := by decide +kernel
theorem dX11_keepWord_61 : decode cX11_keepWord 61 = .ok (.iload_n 3, 1) := by decide +kernel
theorem dX11_keepWord_62 : decode cX11_keepWord 62 = .ok (.iload 7, 2) := by decide +kernel
theorem dX11_keepWord_64 : decode cX11_keepWord 64 = .ok (.iadd, 1) := by decide +kernel
theorem dX11_keepWord_65 : decode cX11_keepWord 65 = .ok (.iaload, 1) := by decide +kernel
theorem dX11_keepWord_66 : decode cX11_keepWord 66 = .ok (.invokevirtual 79, 3) := by decide +kernel
theorem dX11_keepWord_69 : decode cX11_keepWord 69 = .ok (.ifCond .ne 5, 3) := by decide +kernel
theorem dX11_keepWord_72 : decode cX11_keepWord 72 = .ok (.iconst (-1), 1) := by decide +kernel
theorem dX11_keepWord_73 : decode cX11_keepWord 73 = .ok (.ireturn, 1) := by decide +kernel
theorem dX11_keepWord_74 : decode cX11_keepWord 74 = .ok (.iinc 7 1, 3) := by decide +kernel
theorem dX11_keepWord_77 : decode cX11_keepWord 77 = .ok (.goto (-29), 3) := by decide +kernel
theorem dX11_keepWord_80 : decode cX11_keepWord 80 = .ok (.aload_n 0, 1) := by decide +kernel
theorem dX11_keepWord_81 : decode cX11_keepWord 81 = .ok (.getfield 67, 3) := by decide +kernel
theorem dX11_keepWord_84 : decode cX11_keepWord 84 = .ok (.bipush 10, 2) := by decide +kernel
theorem dX11_keepWord_86 : decode cX11_keepWord 86 = .ok (.if_icmp .lt 6, 3) := by decide +kernel
theorem dX11_keepWord_89 : decode cX11_keepWord 89 = .ok (.bipush (-4), 2) := by decide +kernel
theorem dX11_keepWord_91 : decode cX11_keepWord 91 = .ok (.ireturn, 1) := by decide +kernel
theorem dX11_keepWord_92 : decode cX11_keepWord 92 = .ok (.aload_n 0, 1) := by decide +kernel
theorem dX11_keepWord_93 : decode cX11_keepWord 93 = .ok (.getfield 36, 3) := by decide +kernel
theorem dX11_keepWord_96 : decode cX11_keepWord 96 = .ok (.aload_n 0, 1) := by decide +kernel
theorem dX11_keepWord_97 : decode cX11_keepWord 97 = .ok (.getfield 67, 3) := by decide +kernel
theorem dX11_keepWord_100 : decode cX11_keepWord 100 = .ok (.aaload, 1) := by decide +kernel
theorem dX11_keepWord_101 : decode cX11_keepWord 101 = .ok (.astore 7, 2) := by decide +kernel
theorem dX11_keepWord_103 : decode cX11_keepWord 103 = .ok (.aload 7, 2) := by decide +kernel
theorem dX11_keepWord_105 : decode cX11_keepWord 105 = .ok (.invokevirtual 197, 3) := by decide +kernel
theorem dX11_keepWord_108 : decode cX11_keepWord 108 = .ok (.iconst 0, 1) := by decide +kernel
theorem dX11_keepWord_109 : decode cX11_keepWord 109 = .ok (.istore 8, 2) := by decide +kernel
theorem dX11_keepWord_111 : decode cX11_keepWord 111 = .ok (.iload 8, 2) := by decide +kernel
theorem dX11_keepWord_113 : decode cX11_keepWord 113 = .ok (.iload 4, 2) := by decide +kernel
theorem dX11_keepWord_115 : decode cX11_keepWord 115 = .ok (.if_icmp .ge 21, 3) := by decide +kernel
theorem dX11_keepWord_118 : decode cX11_keepWord 118 = .ok (.aload 7, 2) := by decide +kernel
theorem dX11_keepWord_120 : decode cX11_keepWord 120 = .ok (.aload 6, 2) := by decide +kernel
theorem dX11_keepWord_122 : decode cX11_keepWord 122 = .ok (.iload_n 3, 1) := by decide +kernel
theorem dX11_keepWord_123 : decode cX11_keepWord 123 = .ok (.iload 8, 2) := by decide +kernel
theorem dX11_keepWord_125 : decode cX11_keepWord 125 = .ok (.iadd, 1) := by decide +kernel
theorem dX11_keepWord_126 : decode cX11_keepWord 126 = .ok (.iaload, 1) := by decide +kernel
theorem dX11_keepWord_127 : decode cX11_keepWord 127 = .ok (.invokevirtual 296, 3) := by decide +kernel
theorem dX11_keepWord_130 : decode cX11_keepWord 130 = .ok (.iinc 8 1, 3) := by decide +kernel
theorem dX11_keepWord_133 : decode cX11_keepWord 133 = .ok (.goto (-22), 3) := by decide +kernel
theorem dX11_keepWord_136 : decode cX11_keepWord 136 = .ok (.aload_n 0, 1) := by decide +kernel
theorem dX11_keepWord_137 : decode cX11_keepWord 137 = .ok (.invokevirtual 204, 3) := by decide +kernel
theorem dX11_keepWord_140 : decode cX11_keepWord 140 = .ok (.ireturn, 1) := by decide +kernel
theorem dX11_finishWord_0 : decode cX11_finishWord 0 = .ok (.aload_n 0, 1) := by decide +kernel
theorem dX11_finishWord_1 : decode cX11_finishWord 1 = .ok (.getfield 36, 3) := by decide +kernel
theorem dX11_finishWord_4 : decode cX11_finishWord 4 = .ok (.aload_n 0, 1) := by decide +kernel
theorem dX11_finishWord_5 : decode cX11_finishWord 5 = .ok (.getfield 67, 3) := by decide +kernel
theorem dX11_finishWord_8 : decode cX11_finishWord 8 = .ok (.aaload, 1) := by decide +kernel
theorem dX11_finishWord_9 : decode cX11_finishWord 9 = .ok (.astore_n 1, 1) := by decide +kernel
theorem dX11_finishWord_10 : decode cX11_finishWord 10 = .ok (.aload_n 0, 1) := by decide +kernel
theorem dX11_finishWord_11 : decode cX11_finishWord 11 = .ok (.getfield 14, 3) := by decide +kernel
theorem dX11_finishWord_14 : decode cX11_finishWord 14 = .ok (.aload_n 1, 1) := by decide +kernel
theorem dX11_finishWord_15 : decode cX11_finishWord 15 = .ok (.getfield 207, 3) := by decide +kernel
theorem dX11_finishWord_18 : decode cX11_finishWord 18 = .ok (.aload_n 1, 1) := by decide +kernel
theorem dX11_finishWord_19 : decode cX11_finishWord 19 = .ok (.getfield 194, 3) := by decide +kernel
theorem dX11_finishWord_22 : decode cX11_finishWord 22 = .ok (.aload_n 1, 1) := by decide +kernel
theorem dX11_finishWord_23 : decode cX11_finishWord 23 = .ok (.getfield 224, 3) := by decide +kernel
theorem dX11_finishWord_26 : decode cX11_finishWord 26 = .ok (.invokevirtual 300, 3) := by decide +kernel
theorem dX11_finishWord_29 : decode cX11_finishWord 29 = .ok (.aload_n 0, 1) := by decide +kernel
theorem dX11_finishWord_30 : decode cX11_finishWord 30 = .ok (.dup, 1) := by decide +kernel
theorem dX11_finishWord_31 : decode cX11_finishWord 31 = .ok (.getfield 67, 3) := by decide +kernel
theorem dX11_finishWord_34 : decode cX11_finishWord 34 = .ok (.iconst 1, 1) := by decide +kernel
theorem dX11_finishWord_35 : decode cX11_finishWord 35 = .ok (.iadd, 1) := by decide +kernel
theorem dX11_finishWord_36 : decode cX11_finishWord 36 = .ok (.putfield 67, 3) := by decide +kernel
theorem dX11_finishWord_39 : decode cX11_finishWord 39 = .ok (.aload_n 0, 1) := by decide +kernel
theorem dX11_finishWord_40 : decode cX11_finishWord 40 = .ok (.getfield 67, 3) := by decide +kernel
theorem dX11_finishWord_43 : decode cX11_finishWord 43 = .ok (.iconst 1, 1) := by decide +kernel
theorem dX11_finishWord_44 : decode cX11_finishWord 44 = .ok (.isub, 1) := by decide +kernel
theorem dX11_finishWord_45 : decode cX11_finishWord 45 = .ok (.ireturn, 1) := by decide +kernel
theorem dX11_hasWord_0 : decode cX11_hasWord 0 = .ok (.iload_n 1, 1) := by decide +kernel
theorem dX11_hasWord_1 : decode cX11_hasWord 1 = .ok (.iconst 0, 1) := by decide +kernel
theorem dX11_hasWord_2 : decode cX11_hasWord 2 = .ok (.aload_n 0, 1) := by decide +kernel
theorem dX11_hasWord_3 : decode cX11_hasWord 3 = .ok (.getfield 67, 3) := by decide +kernel
theorem dX11_hasWord_6 : decode cX11_hasWord 6 = .ok (.iconst 1, 1) := by decide +kernel
theorem dX11_hasWord_7 : decode cX11_hasWord 7 = .ok (.isub, 1) := by decide +kernel
theorem dX11_hasWord_8 : decode cX11_hasWord 8 = .ok (.invokestatic 55, 3) := by decide +kernel
theorem dX11_hasWord_11 : decode cX11_hasWord 11 = .ok (.ireturn, 1) := by decide +kernel
theorem dX11_isRing_0 : decode cX11_isRing 0 = .ok (.aload_n 0, 1) := by decide +kernel
theorem dX11_isRing_1 : decode cX11_isRing 1 = .ok (.getfield 14, 3) := by decide +kernel
theorem dX11_isRing_4 : decode cX11_isRing 4 = .ok (.aload_n 1, 1) := by decide +kernel
theorem dX11_isRing_5 : decode cX11_isRing 5 = .ok (.getfield 207, 3) := by decide +kernel
theorem dX11_isRing_8 : decode cX11_isRing 8 = .ok (.aload_n 1, 1) := by decide +kernel
theorem dX11_isRing_9 : decode cX11_isRing 9 = .ok (.getfield 194, 3) := by decide +kernel
theorem dX11_isRing_12 : decode cX11_isRing 12 = .ok (.invokevirtual 210, 3) := by decide +kernel
theorem dX11_isRing_15 : decode cX11_isRing 15 = .ok (.ifCond .eq 39, 3) := by decide +kernel
theorem dX11_isRing_18 : decode cX11_isRing 18 = .ok (.aload_n 0, 1) := by decide +kernel
theorem dX11_isRing_19 : decode cX11_isRing 19 = .ok (.getfield 14, 3) := by decide +kernel
theorem dX11_isRing_22 : decode cX11_isRing 22 = .ok (.aload_n 1, 1) := by decide +kernel
theorem dX11_isRing_23 : decode cX11_isRing 23 = .ok (.getfield 207, 3) := by decide +kernel
theorem dX11_isRing_26 : decode cX11_isRing 26 = .ok (.aload_n 1, 1) := by decide +kernel
theorem dX11_isRing_27 : decode cX11_isRing 27 = .ok (.getfield 194, 3) := by decide +kernel
theorem dX11_isRing_30 : decode cX11_isRing 30 = .ok (.invokevirtual 304, 3) := by decide +kernel
theorem dX11_isRing_33 : decode cX11_isRing 33 = .ok (.ifCond .eq 21, 3) := by decide +kernel
theorem dX11_isRing_36 : decode cX11_isRing 36 = .ok (.aload_n 1, 1) := by decide +kernel
theorem dX11_isRing_37 : decode cX11_isRing 37 = .ok (.getfield 207, 3) := by decide +kernel
theorem dX11_isRing_40 : decode cX11_isRing 40 = .ok (.aload_n 1, 1) := by decide +kernel
theorem dX11_isRing_41 : decode cX11_isRing 41 = .ok (.getfield 194, 3) := by decide +kernel
theorem dX11_isRing_44 : decode cX11_isRing 44 = .ok (.invokestatic 307, 3) := by decide +kernel
theorem dX11_isRing_47 : decode cX11_isRing 47 = .ok (.ifCond .eq 7, 3) := by decide +kernel
theorem dX11_isRing_50 : decode cX11_isRing 50 = .ok (.iconst 1, 1) := by decide +kernel
theorem dX11_isRing_51 : decode cX11_isRing 51 = .ok (.goto 4, 3) := by decide +kernel
theorem dX11_isRing_54 : decode cX11_isRing 54 = .ok (.iconst 0, 1) := by decide +kernel
theorem dX11_isRing_55 : decode cX11_isRing 55 = .ok (.ireturn, 1) := by decide +kernel
theorem dX11_renewSheet_0 : decode cX11_renewSheet 0 = .ok (.iload_n 1, 1) := by decide +kernel
theorem dX11_renewSheet_1 : decode cX11_renewSheet 1 = .ok (.invokestatic 238, 3) := by decide +kernel
theorem dX11_renewSheet_4 : decode cX11_renewSheet 4 = .ok (.ifCond .ne 5, 3) := by decide +kernel
theorem dX11_renewSheet_7 : decode cX11_renewSheet 7 = .ok (.iconst (-1), 1) := by decide +kernel
theorem dX11_renewSheet_8 : decode cX11_renewSheet 8 = .ok (.ireturn, 1) := by decide +kernel
theorem dX11_renewSheet_9 : decode cX11_renewSheet 9 = .ok (.iload_n 2, 1) := by decide +kernel
theorem dX11_renewSheet_10 : decode cX11_renewSheet 10 = .ok (.invokestatic 275, 3) := by decide +kernel
theorem dX11_renewSheet_13 : decode cX11_renewSheet 13 = .ok (.ifCond .eq 9, 3) := by decide +kernel
theorem dX11_renewSheet_16 : decode cX11_renewSheet 16 = .ok (.iload_n 3, 1) := by decide +kernel
theorem dX11_renewSheet_17 : decode cX11_renewSheet 17 = .ok (.bipush 40, 2) := by decide +kernel
theorem dX11_renewSheet_19 : decode cX11_renewSheet 19 = .ok (.if_icmp .le 6, 3) := by decide +kernel
theorem dX11_renewSheet_22 : decode cX11_renewSheet 22 = .ok (.bipush (-2), 2) := by decide +kernel
theorem dX11_renewSheet_24 : decode cX11_renewSheet 24 = .ok (.ireturn, 1) := by decide +kernel
theorem dX11_renewSheet_25 : decode cX11_renewSheet 25 = .ok (.iload_n 3, 1) := by decide +kernel
theorem dX11_renewSheet_26 : decode cX11_renewSheet 26 = .ok (.ifCond .ge 8, 3) := by decide +kernel
theorem dX11_renewSheet_29 : decode cX11_renewSheet 29 = .ok (.iconst 4, 1) := by decide +kernel
theorem dX11_renewSheet_30 : decode cX11_renewSheet 30 = .ok (.invokestatic 284, 3) := by decide +kernel
theorem dX11_renewSheet_33 : decode cX11_renewSheet 33 = .ok (.ireturn, 1) := by decide +kernel
theorem dX11_renewSheet_34 : decode cX11_renewSheet 34 = .ok (.aload_n 0, 1) := by decide +kernel
theorem dX11_renewSheet_35 : decode cX11_renewSheet 35 = .ok (.getfield 42, 3) := by decide +kernel
theorem dX11_renewSheet_38 : decode cX11_renewSheet 38 = .ok (.iload_n 1, 1) := by decide +kernel
theorem dX11_renewSheet_39 : decode cX11_renewSheet 39 = .ok (.aaload, 1) := by decide +kernel
theorem dX11_renewSheet_40 : decode cX11_renewSheet 40 = .ok (.iload_n 2, 1) := by decide +kernel
theorem dX11_renewSheet_41 : decode cX11_renewSheet 41 = .ok (.iload_n 3, 1) := by decide +kernel
theorem dX11_renewSheet_42 : decode cX11_renewSheet 42 = .ok (.invokevirtual 310, 3) := by decide +kernel
theorem dX11_renewSheet_45 : decode cX11_renewSheet 45 = .ok (.iconst 1, 1) := by decide +kernel
theorem dX11_renewSheet_46 : decode cX11_renewSheet 46 = .ok (.ireturn, 1) := by decide +kernel
theorem dX11_putCell_0 : decode cX11_putCell 0 = .ok (.iload_n 1, 1) := by decide +kernel
theorem dX11_putCell_1 : decode cX11_putCell 1 = .ok (.invokestatic 238, 3) := by decide +kernel
theorem dX11_putCell_4 : decode cX11_putCell 4 = .ok (.ifCond .ne 5, 3) := by decide +kernel
theorem dX11_putCell_7 : decode cX11_putCell 7 = .ok (.iconst (-1), 1) := by decide +kernel
theorem dX11_putCell_8 : decode cX11_putCell 8 = .ok (.ireturn, 1) := by decide +kernel
theorem dX11_putCell_9 : decode cX11_putCell 9 = .ok (.aload_n 0, 1) := by decide +kernel
theorem dX11_putCell_10 : decode cX11_putCell 10 = .ok (.getfield 42, 3) := by decide +kernel
theorem dX11_putCell_13 : decode cX11_putCell 13 = .ok (.iload_n 1, 1) := by decide +kernel
theorem dX11_putCell_14 : decode cX11_putCell 14 = .ok (.aaload, 1) := by decide +kernel
theorem dX11_putCell_15 : decode cX11_putCell 15 = .ok (.getfield 278, 3) := by decide +kernel
theorem dX11_putCell_18 : decode cX11_putCell 18 = .ok (.ifCond .ne 8, 3) := by decide +kernel
theorem dX11_putCell_21 : decode cX11_putCell 21 = .ok (.iconst 1, 1) := by decide +kernel
theorem dX11_putCell_22 : decode cX11_putCell 22 = .ok (.invokestatic 284, 3) := by decide +kernel
theorem dX11_putCell_25 : decode cX11_putCell 25 = .ok (.ireturn, 1) := by decide +kernel
theorem dX11_putCell_26 : decode cX11_putCell 26 = .ok (.aload_n 0, 1) := by decide +kernel
theorem dX11_putCell_27 : decode cX11_putCell 27 = .ok (.getfield 42, 3) := by decide +kernel
theorem dX11_putCell_30 : decode cX11_putCell 30 = .ok (.iload_n 1, 1) := by decide +kernel
theorem dX11_putCell_31 : decode cX11_putCell 31 = .ok (.aaload, 1) := by decide +kernel
theorem dX11_putCell_32 : decode cX11_putCell 32 = .ok (.iload_n 2, 1) := by decide +kernel
theorem dX11_putCell_33 : decode cX11_putCell 33 = .ok (.iconst 1, 1) := by decide +kernel
theorem dX11_putCell_34 : decode cX11_putCell 34 = .ok (.invokevirtual 287, 3) := by decide +kernel
theorem dX11_putCell_37 : decode cX11_putCell 37 = .ok (.ifCond .ne 8, 3) := by decide +kernel
theorem dX11_putCell_40 : decode cX11_putCell 40 = .ok (.iconst 3, 1) := by decide +kernel
theorem dX11_putCell_41 : decode cX11_putCell 41 = .ok (.invokestatic 284, 3) := by decide +kernel
theorem dX11_putCell_44 : decode cX11_putCell 44 = .ok (.ireturn, 1) := by decide +kernel
theorem dX11_putCell_45 : decode cX11_putCell 45 = .ok (.aload_n 0, 1) := by decide +kernel
theorem dX11_putCell_46 : decode cX11_putCell 46 = .ok (.getfield 42, 3) := by decide +kernel
theorem dX11_putCell_49 : decode cX11_putCell 49 = .ok (.iload_n 1, 1) := by decide +kernel
theorem dX11_putCell_50 : decode cX11_putCell 50 = .ok (.aaload, 1) := by decide +kernel
theorem dX11_putCell_51 : decode cX11_putCell 51 = .ok (.iload_n 2, 1) := by decide +kernel
theorem dX11_putCell_52 : decode cX11_putCell 52 = .ok (.iload_n 3, 1) := by decide +kernel
theorem dX11_putCell_53 : decode cX11_putCell 53 = .ok (.invokevirtual 313, 3) := by decide +kernel
theorem dX11_putCell_56 : decode cX11_putCell 56 = .ok (.iconst 1, 1) := by decide +kernel
theorem dX11_putCell_57 : decode cX11_putCell 57 = .ok (.ireturn, 1) := by decide +kernel
theorem dX11_takeAs_0 : decode cX11_takeAs 0 = .ok (.aload_n 0, 1) := by decide +kernel
theorem dX11_takeAs_1 : decode cX11_takeAs 1 = .ok (.getfield 14, 3) := by decide +kernel
theorem dX11_takeAs_4 : decode cX11_takeAs 4 = .ok (.iload_n 1, 1) := by decide +kernel
theorem dX11_takeAs_5 : decode cX11_takeAs 5 = .ok (.invokevirtual 79, 3) := by decide +kernel
theorem dX11_takeAs_8 : decode cX11_takeAs 8 = .ok (.ifCond .ne 5, 3) := by decide +kernel
theorem dX11_takeAs_11 : decode cX11_takeAs 11 = .ok (.iconst (-1), 1) := by decide +kernel
theorem dX11_takeAs_12 : decode cX11_takeAs 12 = .ok (.ireturn, 1) := by decide +kernel
theorem dX11_takeAs_13 : decode cX11_takeAs 13 = .ok (.iload_n 2, 1) := by decide +kernel
theorem dX11_takeAs_14 : decode cX11_takeAs 14 = .ok (.iconst 0, 1) := by decide +kernel
theorem dX11_takeAs_15 : decode cX11_takeAs 15 = .ok (.iconst 2, 1) := by decide +kernel
theorem dX11_takeAs_16 : decode cX11_takeAs 16 = .ok (.invokestatic 55, 3) := by decide +kernel
theorem dX11_takeAs_19 : decode cX11_takeAs 19 = .ok (.ifCond .ne 6, 3) := by decide +kernel
theorem dX11_takeAs_22 : decode cX11_takeAs 22 = .ok (.bipush (-2), 2) := by decide +kernel
theorem dX11_takeAs_24 : decode cX11_takeAs 24 = .ok (.ireturn, 1) := by decide +kernel
theorem dX11_takeAs_25 : decode cX11_takeAs 25 = .ok (.aload_n 0, 1) := by decide +kernel
theorem dX11_takeAs_26 : decode cX11_takeAs 26 = .ok (.getfield 14, 3) := by decide +kernel
theorem dX11_takeAs_29 : decode cX11_takeAs 29 = .ok (.iload_n 1, 1) := by decide +kernel
theorem dX11_takeAs_30 : decode cX11_takeAs 30 = .ok (.invokevirtual 89, 3) := by decide +kernel
theorem dX11_takeAs_33 : decode cX11_takeAs 33 = .ok (.iload_n 2, 1) := by decide +kernel
theorem dX11_takeAs_34 : decode cX11_takeAs 34 = .ok (.invokevirtual 316, 3) := by decide +kernel
theorem dX11_takeAs_37 : decode cX11_takeAs 37 = .ok (.ifCond .eq 7, 3) := by decide +kernel
theorem dX11_takeAs_40 : decode cX11_takeAs 40 = .ok (.iconst 1, 1) := by decide +kernel
theorem dX11_takeAs_41 : decode cX11_takeAs 41 = .ok (.goto 7, 3) := by decide +kernel
theorem dX11_takeAs_44 : decode cX11_takeAs 44 = .ok (.iconst 2, 1) := by decide +kernel
theorem dX11_takeAs_45 : decode cX11_takeAs 45 = .ok (.invokestatic 284, 3) := by decide +kernel
theorem dX11_takeAs_48 : decode cX11_takeAs 48 = .ok (.ireturn, 1) := by decide +kernel
