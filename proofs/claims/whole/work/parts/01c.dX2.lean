theorem d_X_refusalOf_0 : decode b_X_refusalOf 0 = .ok (.iload_n 1, 1) := by decide +kernel
theorem d_X_refusalOf_1 : decode b_X_refusalOf 1 = .ok (.invokestatic 57, 3) := by decide +kernel
theorem d_X_refusalOf_4 : decode b_X_refusalOf 4 = .ok (.ifCond .eq 17, 3) := by decide +kernel
theorem d_X_refusalOf_7 : decode b_X_refusalOf 7 = .ok (.iload_n 2, 1) := by decide +kernel
theorem d_X_refusalOf_8 : decode b_X_refusalOf 8 = .ok (.invokestatic 57, 3) := by decide +kernel
theorem d_X_refusalOf_11 : decode b_X_refusalOf 11 = .ok (.ifCond .eq 10, 3) := by decide +kernel
theorem d_X_refusalOf_14 : decode b_X_refusalOf 14 = .ok (.iload_n 3, 1) := by decide +kernel
theorem d_X_refusalOf_15 : decode b_X_refusalOf 15 = .ok (.invokestatic 57, 3) := by decide +kernel
theorem d_X_refusalOf_18 : decode b_X_refusalOf 18 = .ok (.ifCond .ne 5, 3) := by decide +kernel
theorem d_X_refusalOf_21 : decode b_X_refusalOf 21 = .ok (.iconst (-1), 1) := by decide +kernel
theorem d_X_refusalOf_22 : decode b_X_refusalOf 22 = .ok (.ireturn, 1) := by decide +kernel
theorem d_X_refusalOf_23 : decode b_X_refusalOf 23 = .ok (.aload_n 0, 1) := by decide +kernel
theorem d_X_refusalOf_24 : decode b_X_refusalOf 24 = .ok (.getfield 29, 3) := by decide +kernel
theorem d_X_refusalOf_27 : decode b_X_refusalOf 27 = .ok (.iload_n 1, 1) := by decide +kernel
theorem d_X_refusalOf_28 : decode b_X_refusalOf 28 = .ok (.baload, 1) := by decide +kernel
theorem d_X_refusalOf_29 : decode b_X_refusalOf 29 = .ok (.ifCond .eq 12, 3) := by decide +kernel
theorem d_X_refusalOf_32 : decode b_X_refusalOf 32 = .ok (.aload_n 0, 1) := by decide +kernel
theorem d_X_refusalOf_33 : decode b_X_refusalOf 33 = .ok (.getfield 29, 3) := by decide +kernel
theorem d_X_refusalOf_36 : decode b_X_refusalOf 36 = .ok (.iload_n 2, 1) := by decide +kernel
theorem d_X_refusalOf_37 : decode b_X_refusalOf 37 = .ok (.baload, 1) := by decide +kernel
theorem d_X_refusalOf_38 : decode b_X_refusalOf 38 = .ok (.ifCond .ne 6, 3) := by decide +kernel
theorem d_X_refusalOf_41 : decode b_X_refusalOf 41 = .ok (.bipush (-2), 2) := by decide +kernel
theorem d_X_refusalOf_43 : decode b_X_refusalOf 43 = .ok (.ireturn, 1) := by decide +kernel
theorem d_X_refusalOf_44 : decode b_X_refusalOf 44 = .ok (.aload_n 0, 1) := by decide +kernel
theorem d_X_refusalOf_45 : decode b_X_refusalOf 45 = .ok (.getfield 29, 3) := by decide +kernel
theorem d_X_refusalOf_48 : decode b_X_refusalOf 48 = .ok (.iload_n 3, 1) := by decide +kernel
theorem d_X_refusalOf_49 : decode b_X_refusalOf 49 = .ok (.baload, 1) := by decide +kernel
theorem d_X_refusalOf_50 : decode b_X_refusalOf 50 = .ok (.ifCond .eq 6, 3) := by decide +kernel
theorem d_X_refusalOf_53 : decode b_X_refusalOf 53 = .ok (.bipush (-3), 2) := by decide +kernel
theorem d_X_refusalOf_55 : decode b_X_refusalOf 55 = .ok (.ireturn, 1) := by decide +kernel
theorem d_X_refusalOf_56 : decode b_X_refusalOf 56 = .ok (.iconst 0, 1) := by decide +kernel
theorem d_X_refusalOf_57 : decode b_X_refusalOf 57 = .ok (.ireturn, 1) := by decide +kernel
theorem d_X_finish_0 : decode b_X_finish 0 = .ok (.aload_n 0, 1) := by decide +kernel
theorem d_X_finish_1 : decode b_X_finish 1 = .ok (.getfield 24, 3) := by decide +kernel
theorem d_X_finish_4 : decode b_X_finish 4 = .ok (.iload_n 1, 1) := by decide +kernel
theorem d_X_finish_5 : decode b_X_finish 5 = .ok (.aaload, 1) := by decide +kernel
theorem d_X_finish_6 : decode b_X_finish 6 = .ok (.astore 4, 2) := by decide +kernel
theorem d_X_finish_8 : decode b_X_finish 8 = .ok (.aload 4, 2) := by decide +kernel
theorem d_X_finish_10 : decode b_X_finish 10 = .ok (.getfield 117, 3) := by decide +kernel
theorem d_X_finish_13 : decode b_X_finish 13 = .ok (.ifCond .eq 6, 3) := by decide +kernel
theorem d_X_finish_16 : decode b_X_finish 16 = .ok (.bipush (-4), 2) := by decide +kernel
theorem d_X_finish_18 : decode b_X_finish 18 = .ok (.ireturn, 1) := by decide +kernel
theorem d_X_finish_19 : decode b_X_finish 19 = .ok (.aload_n 0, 1) := by decide +kernel
theorem d_X_finish_20 : decode b_X_finish 20 = .ok (.getfield 29, 3) := by decide +kernel
theorem d_X_finish_23 : decode b_X_finish 23 = .ok (.iload_n 1, 1) := by decide +kernel
theorem d_X_finish_24 : decode b_X_finish 24 = .ok (.iconst 1, 1) := by decide +kernel
theorem d_X_finish_25 : decode b_X_finish 25 = .ok (.bastore, 1) := by decide +kernel
theorem d_X_finish_26 : decode b_X_finish 26 = .ok (.aload_n 0, 1) := by decide +kernel
theorem d_X_finish_27 : decode b_X_finish 27 = .ok (.dup, 1) := by decide +kernel
theorem d_X_finish_28 : decode b_X_finish 28 = .ok (.getfield 46, 3) := by decide +kernel
theorem d_X_finish_31 : decode b_X_finish 31 = .ok (.lload_n 2, 1) := by decide +kernel
theorem d_X_finish_32 : decode b_X_finish 32 = .ok (.ladd, 1) := by decide +kernel
theorem d_X_finish_33 : decode b_X_finish 33 = .ok (.putfield 46, 3) := by decide +kernel
theorem d_X_finish_36 : decode b_X_finish 36 = .ok (.aload 4, 2) := by decide +kernel
theorem d_X_finish_38 : decode b_X_finish 38 = .ok (.getfield 50, 3) := by decide +kernel
theorem d_X_finish_41 : decode b_X_finish 41 = .ok (.ireturn, 1) := by decide +kernel
theorem d_X_sizeOf_0 : decode b_X_sizeOf 0 = .ok (.iload_n 0, 1) := by decide +kernel
theorem d_X_sizeOf_1 : decode b_X_sizeOf 1 = .ok (.iconst 4, 1) := by decide +kernel
theorem d_X_sizeOf_2 : decode b_X_sizeOf 2 = .ok (.invokestatic 121, 3) := by decide +kernel
theorem d_X_sizeOf_5 : decode b_X_sizeOf 5 = .ok (.ireturn, 1) := by decide +kernel
theorem d_X_dividedUp_0 : decode b_X_dividedUp 0 = .ok (.iload_n 0, 1) := by decide +kernel
theorem d_X_dividedUp_1 : decode b_X_dividedUp 1 = .ok (.iload_n 1, 1) := by decide +kernel
theorem d_X_dividedUp_2 : decode b_X_dividedUp 2 = .ok (.iadd, 1) := by decide +kernel
theorem d_X_dividedUp_3 : decode b_X_dividedUp 3 = .ok (.iconst 1, 1) := by decide +kernel
theorem d_X_dividedUp_4 : decode b_X_dividedUp 4 = .ok (.isub, 1) := by decide +kernel
theorem d_X_dividedUp_5 : decode b_X_dividedUp 5 = .ok (.iload_n 1, 1) := by decide +kernel
theorem d_X_dividedUp_6 : decode b_X_dividedUp 6 = .ok (.idiv, 1) := by decide +kernel
theorem d_X_dividedUp_7 : decode b_X_dividedUp 7 = .ok (.ireturn, 1) := by decide +kernel
theorem d_X_sortCost_0 : decode b_X_sortCost 0 = .ok (.iload_n 1, 1) := by decide +kernel
theorem d_X_sortCost_1 : decode b_X_sortCost 1 = .ok (.invokestatic 68, 3) := by decide +kernel
theorem d_X_sortCost_4 : decode b_X_sortCost 4 = .ok (.istore_n 2, 1) := by decide +kernel
theorem d_X_sortCost_5 : decode b_X_sortCost 5 = .ok (.iload_n 2, 1) := by decide +kernel
theorem d_X_sortCost_6 : decode b_X_sortCost 6 = .ok (.aload_n 0, 1) := by decide +kernel
theorem d_X_sortCost_7 : decode b_X_sortCost 7 = .ok (.getfield 18, 3) := by decide +kernel
theorem d_X_sortCost_10 : decode b_X_sortCost 10 = .ok (.invokestatic 121, 3) := by decide +kernel
theorem d_X_sortCost_13 : decode b_X_sortCost 13 = .ok (.istore_n 3, 1) := by decide +kernel
theorem d_X_sortCost_14 : decode b_X_sortCost 14 = .ok (.iconst 0, 1) := by decide +kernel
theorem d_X_sortCost_15 : decode b_X_sortCost 15 = .ok (.istore 4, 2) := by decide +kernel
theorem d_X_sortCost_17 : decode b_X_sortCost 17 = .ok (.iload_n 3, 1) := by decide +kernel
theorem d_X_sortCost_18 : decode b_X_sortCost 18 = .ok (.iconst 1, 1) := by decide +kernel
theorem d_X_sortCost_19 : decode b_X_sortCost 19 = .ok (.if_icmp .le 27, 3) := by decide +kernel
theorem d_X_sortCost_22 : decode b_X_sortCost 22 = .ok (.iload 4, 2) := by decide +kernel
theorem d_X_sortCost_24 : decode b_X_sortCost 24 = .ok (.bipush 60, 2) := by decide +kernel
theorem d_X_sortCost_26 : decode b_X_sortCost 26 = .ok (.if_icmp .ge 20, 3) := by decide +kernel
theorem d_X_sortCost_29 : decode b_X_sortCost 29 = .ok (.iload_n 3, 1) := by decide +kernel
theorem d_X_sortCost_30 : decode b_X_sortCost 30 = .ok (.aload_n 0, 1) := by decide +kernel
theorem d_X_sortCost_31 : decode b_X_sortCost 31 = .ok (.getfield 18, 3) := by decide +kernel
theorem d_X_sortCost_34 : decode b_X_sortCost 34 = .ok (.iconst 1, 1) := by decide +kernel
theorem d_X_sortCost_35 : decode b_X_sortCost 35 = .ok (.isub, 1) := by decide +kernel
theorem d_X_sortCost_36 : decode b_X_sortCost 36 = .ok (.invokestatic 121, 3) := by decide +kernel
theorem d_X_sortCost_39 : decode b_X_sortCost 39 = .ok (.istore_n 3, 1) := by decide +kernel
theorem d_X_sortCost_40 : decode b_X_sortCost 40 = .ok (.iinc 4 1, 3) := by decide +kernel
theorem d_X_sortCost_43 : decode b_X_sortCost 43 = .ok (.goto (-26), 3) := by decide +kernel
theorem d_X_sortCost_46 : decode b_X_sortCost 46 = .ok (.ldc2_w 124, 3) := by decide +kernel
theorem d_X_sortCost_49 : decode b_X_sortCost 49 = .ok (.iload_n 2, 1) := by decide +kernel
theorem d_X_sortCost_50 : decode b_X_sortCost 50 = .ok (.i2l, 1) := by decide +kernel
theorem d_X_sortCost_51 : decode b_X_sortCost 51 = .ok (.lmul, 1) := by decide +kernel
theorem d_X_sortCost_52 : decode b_X_sortCost 52 = .ok (.iconst 1, 1) := by decide +kernel
theorem d_X_sortCost_53 : decode b_X_sortCost 53 = .ok (.iload 4, 2) := by decide +kernel
theorem d_X_sortCost_55 : decode b_X_sortCost 55 = .ok (.iadd, 1) := by decide +kernel
theorem d_X_sortCost_56 : decode b_X_sortCost 56 = .ok (.i2l, 1) := by decide +kernel
theorem d_X_sortCost_57 : decode b_X_sortCost 57 = .ok (.lmul, 1) := by decide +kernel
theorem d_X_sortCost_58 : decode b_X_sortCost 58 = .ok (.lreturn, 1) := by decide +kernel
theorem d_X_rowsInMemory_0 : decode b_X_rowsInMemory 0 = .ok (.iconst 4, 1) := by decide +kernel
theorem d_X_rowsInMemory_1 : decode b_X_rowsInMemory 1 = .ok (.aload_n 0, 1) := by decide +kernel
theorem d_X_rowsInMemory_2 : decode b_X_rowsInMemory 2 = .ok (.getfield 18, 3) := by decide +kernel
theorem d_X_rowsInMemory_5 : decode b_X_rowsInMemory 5 = .ok (.iconst 2, 1) := by decide +kernel
theorem d_X_rowsInMemory_6 : decode b_X_rowsInMemory 6 = .ok (.isub, 1) := by decide +kernel
theorem d_X_rowsInMemory_7 : decode b_X_rowsInMemory 7 = .ok (.imul, 1) := by decide +kernel
theorem d_X_rowsInMemory_8 : decode b_X_rowsInMemory 8 = .ok (.ireturn, 1) := by decide +kernel
theorem d_X_groupOneRound_0 : decode b_X_groupOneRound 0 = .ok (.aload_n 2, 1) := by decide +kernel
theorem d_X_groupOneRound_1 : decode b_X_groupOneRound 1 = .ok (.getfield 50, 3) := by decide +kernel
theorem d_X_groupOneRound_4 : decode b_X_groupOneRound 4 = .ok (.istore_n 3, 1) := by decide +kernel
theorem d_X_groupOneRound_5 : decode b_X_groupOneRound 5 = .ok (.iconst 0, 1) := by decide +kernel
theorem d_X_groupOneRound_6 : decode b_X_groupOneRound 6 = .ok (.istore 4, 2) := by decide +kernel
theorem d_X_groupOneRound_8 : decode b_X_groupOneRound 8 = .ok (.iconst 0, 1) := by decide +kernel
theorem d_X_groupOneRound_9 : decode b_X_groupOneRound 9 = .ok (.istore 5, 2) := by decide +kernel
theorem d_X_groupOneRound_11 : decode b_X_groupOneRound 11 = .ok (.iload 5, 2) := by decide +kernel
theorem d_X_groupOneRound_13 : decode b_X_groupOneRound 13 = .ok (.aload_n 1, 1) := by decide +kernel
theorem d_X_groupOneRound_14 : decode b_X_groupOneRound 14 = .ok (.getfield 50, 3) := by decide +kernel
theorem d_X_groupOneRound_17 : decode b_X_groupOneRound 17 = .ok (.if_icmp .ge 111, 3) := by decide +kernel
theorem d_X_groupOneRound_20 : decode b_X_groupOneRound 20 = .ok (.aload_n 1, 1) := by decide +kernel
theorem d_X_groupOneRound_21 : decode b_X_groupOneRound 21 = .ok (.getfield 83, 3) := by decide +kernel
theorem d_X_groupOneRound_24 : decode b_X_groupOneRound 24 = .ok (.iload 5, 2) := by decide +kernel
theorem d_X_groupOneRound_26 : decode b_X_groupOneRound 26 = .ok (.iaload, 1) := by decide +kernel
theorem d_X_groupOneRound_27 : decode b_X_groupOneRound 27 = .ok (.istore 6, 2) := by decide +kernel
theorem d_X_groupOneRound_29 : decode b_X_groupOneRound 29 = .ok (.aload_n 2, 1) := by decide +kernel
theorem d_X_groupOneRound_30 : decode b_X_groupOneRound 30 = .ok (.iload 6, 2) := by decide +kernel
theorem d_X_groupOneRound_32 : decode b_X_groupOneRound 32 = .ok (.iload_n 3, 1) := by decide +kernel
theorem d_X_groupOneRound_33 : decode b_X_groupOneRound 33 = .ok (.invokevirtual 126, 3) := by decide +kernel
theorem d_X_groupOneRound_36 : decode b_X_groupOneRound 36 = .ok (.istore 7, 2) := by decide +kernel
theorem d_X_groupOneRound_38 : decode b_X_groupOneRound 38 = .ok (.iload 7, 2) := by decide +kernel
theorem d_X_groupOneRound_40 : decode b_X_groupOneRound 40 = .ok (.aload_n 2, 1) := by decide +kernel
theorem d_X_groupOneRound_41 : decode b_X_groupOneRound 41 = .ok (.getfield 50, 3) := by decide +kernel
theorem d_X_groupOneRound_44 : decode b_X_groupOneRound 44 = .ok (.if_icmp .ge 23, 3) := by decide +kernel
theorem d_X_groupOneRound_47 : decode b_X_groupOneRound 47 = .ok (.aload_n 2, 1) := by decide +kernel
theorem d_X_groupOneRound_48 : decode b_X_groupOneRound 48 = .ok (.getfield 87, 3) := by decide +kernel
theorem d_X_groupOneRound_51 : decode b_X_groupOneRound 51 = .ok (.iload 7, 2) := by decide +kernel
theorem d_X_groupOneRound_53 : decode b_X_groupOneRound 53 = .ok (.dup2, 1) := by decide +kernel
theorem d_X_groupOneRound_54 : decode b_X_groupOneRound 54 = .ok (.iaload, 1) := by decide +kernel
theorem d_X_groupOneRound_55 : decode b_X_groupOneRound 55 = .ok (.aload_n 1, 1) := by decide +kernel
theorem d_X_groupOneRound_56 : decode b_X_groupOneRound 56 = .ok (.getfield 87, 3) := by decide +kernel
theorem d_X_groupOneRound_59 : decode b_X_groupOneRound 59 = .ok (.iload 5, 2) := by decide +kernel
theorem d_X_groupOneRound_61 : decode b_X_groupOneRound 61 = .ok (.iaload, 1) := by decide +kernel
theorem d_X_groupOneRound_62 : decode b_X_groupOneRound 62 = .ok (.iadd, 1) := by decide +kernel
theorem d_X_groupOneRound_63 : decode b_X_groupOneRound 63 = .ok (.iastore, 1) := by decide +kernel
theorem d_X_groupOneRound_64 : decode b_X_groupOneRound 64 = .ok (.goto 58, 3) := by decide +kernel
theorem d_X_groupOneRound_67 : decode b_X_groupOneRound 67 = .ok (.aload_n 2, 1) := by decide +kernel
theorem d_X_groupOneRound_68 : decode b_X_groupOneRound 68 = .ok (.getfield 50, 3) := by decide +kernel
theorem d_X_groupOneRound_71 : decode b_X_groupOneRound 71 = .ok (.iload_n 3, 1) := by decide +kernel
theorem d_X_groupOneRound_72 : decode b_X_groupOneRound 72 = .ok (.isub, 1) := by decide +kernel
theorem d_X_groupOneRound_73 : decode b_X_groupOneRound 73 = .ok (.aload_n 0, 1) := by decide +kernel
theorem d_X_groupOneRound_74 : decode b_X_groupOneRound 74 = .ok (.invokevirtual 129, 3) := by decide +kernel
theorem d_X_groupOneRound_77 : decode b_X_groupOneRound 77 = .ok (.if_icmp .ge 19, 3) := by decide +kernel
theorem d_X_groupOneRound_80 : decode b_X_groupOneRound 80 = .ok (.aload_n 2, 1) := by decide +kernel
theorem d_X_groupOneRound_81 : decode b_X_groupOneRound 81 = .ok (.iload 6, 2) := by decide +kernel
theorem d_X_groupOneRound_83 : decode b_X_groupOneRound 83 = .ok (.aload_n 1, 1) := by decide +kernel
theorem d_X_groupOneRound_84 : decode b_X_groupOneRound 84 = .ok (.getfield 87, 3) := by decide +kernel
theorem d_X_groupOneRound_87 : decode b_X_groupOneRound 87 = .ok (.iload 5, 2) := by decide +kernel
theorem d_X_groupOneRound_89 : decode b_X_groupOneRound 89 = .ok (.iaload, 1) := by decide +kernel
theorem d_X_groupOneRound_90 : decode b_X_groupOneRound 90 = .ok (.invokevirtual 53, 3) := by decide +kernel
theorem d_X_groupOneRound_93 : decode b_X_groupOneRound 93 = .ok (.goto 29, 3) := by decide +kernel
theorem d_X_groupOneRound_96 : decode b_X_groupOneRound 96 = .ok (.aload_n 1, 1) := by decide +kernel
theorem d_X_groupOneRound_97 : decode b_X_groupOneRound 97 = .ok (.getfield 83, 3) := by decide +kernel
theorem d_X_groupOneRound_100 : decode b_X_groupOneRound 100 = .ok (.iload 4, 2) := by decide +kernel
theorem d_X_groupOneRound_102 : decode b_X_groupOneRound 102 = .ok (.iload 6, 2) := by decide +kernel
theorem d_X_groupOneRound_104 : decode b_X_groupOneRound 104 = .ok (.iastore, 1) := by decide +kernel
theorem d_X_groupOneRound_105 : decode b_X_groupOneRound 105 = .ok (.aload_n 1, 1) := by decide +kernel
theorem d_X_groupOneRound_106 : decode b_X_groupOneRound 106 = .ok (.getfield 87, 3) := by decide +kernel
theorem d_X_groupOneRound_109 : decode b_X_groupOneRound 109 = .ok (.iload 4, 2) := by decide +kernel
theorem d_X_groupOneRound_111 : decode b_X_groupOneRound 111 = .ok (.aload_n 1, 1) := by decide +kernel
theorem d_X_groupOneRound_112 : decode b_X_groupOneRound 112 = .ok (.getfield 87, 3) := by decide +kernel
theorem d_X_groupOneRound_115 : decode b_X_groupOneRound 115 = .ok (.iload 5, 2) := by decide +kernel
theorem d_X_groupOneRound_117 : decode b_X_groupOneRound 117 = .ok (.iaload, 1) := by decide +kernel
theorem d_X_groupOneRound_118 : decode b_X_groupOneRound 118 = .ok (.iastore, 1) := by decide +kernel
theorem d_X_groupOneRound_119 : decode b_X_groupOneRound 119 = .ok (.iinc 4 1, 3) := by decide +kernel
theorem d_X_groupOneRound_122 : decode b_X_groupOneRound 122 = .ok (.iinc 5 1, 3) := by decide +kernel
theorem d_X_groupOneRound_125 : decode b_X_groupOneRound 125 = .ok (.goto (-114), 3) := by decide +kernel
theorem d_X_groupOneRound_128 : decode b_X_groupOneRound 128 = .ok (.aload_n 1, 1) := by decide +kernel
theorem d_X_groupOneRound_129 : decode b_X_groupOneRound 129 = .ok (.iload 4, 2) := by decide +kernel
theorem d_X_groupOneRound_131 : decode b_X_groupOneRound 131 = .ok (.putfield 50, 3) := by decide +kernel
theorem d_X_groupOneRound_134 : decode b_X_groupOneRound 134 = .ok (.return_, 1) := by decide +kernel
theorem d_X_mergeBags_0 : decode b_X_mergeBags 0 = .ok (.iconst 0, 1) := by decide +kernel
theorem d_X_mergeBags_1 : decode b_X_mergeBags 1 = .ok (.istore_n 3, 1) := by decide +kernel
theorem d_X_mergeBags_2 : decode b_X_mergeBags 2 = .ok (.iconst 0, 1) := by decide +kernel
theorem d_X_mergeBags_3 : decode b_X_mergeBags 3 = .ok (.istore 4, 2) := by decide +kernel
theorem d_X_mergeBags_5 : decode b_X_mergeBags 5 = .ok (.iconst 0, 1) := by decide +kernel
theorem d_X_mergeBags_6 : decode b_X_mergeBags 6 = .ok (.istore 5, 2) := by decide +kernel
theorem d_X_mergeBags_8 : decode b_X_mergeBags 8 = .ok (.iload 5, 2) := by decide +kernel
theorem d_X_mergeBags_10 : decode b_X_mergeBags 10 = .ok (.bipush 120, 2) := by decide +kernel
theorem d_X_mergeBags_12 : decode b_X_mergeBags 12 = .ok (.if_icmp .ge 177, 3) := by decide +kernel
theorem d_X_mergeBags_15 : decode b_X_mergeBags 15 = .ok (.iload_n 3, 1) := by decide +kernel
theorem d_X_mergeBags_16 : decode b_X_mergeBags 16 = .ok (.aload_n 0, 1) := by decide +kernel
theorem d_X_mergeBags_17 : decode b_X_mergeBags 17 = .ok (.getfield 37, 3) := by decide +kernel
theorem d_X_mergeBags_20 : decode b_X_mergeBags 20 = .ok (.getfield 50, 3) := by decide +kernel
theorem d_X_mergeBags_23 : decode b_X_mergeBags 23 = .ok (.if_icmp .lt 18, 3) := by decide +kernel
theorem d_X_mergeBags_26 : decode b_X_mergeBags 26 = .ok (.iload 4, 2) := by decide +kernel
theorem d_X_mergeBags_28 : decode b_X_mergeBags 28 = .ok (.aload_n 0, 1) := by decide +kernel
theorem d_X_mergeBags_29 : decode b_X_mergeBags 29 = .ok (.getfield 40, 3) := by decide +kernel
theorem d_X_mergeBags_32 : decode b_X_mergeBags 32 = .ok (.getfield 50, 3) := by decide +kernel
theorem d_X_mergeBags_35 : decode b_X_mergeBags 35 = .ok (.if_icmp .lt 6, 3) := by decide +kernel
theorem d_X_mergeBags_38 : decode b_X_mergeBags 38 = .ok (.goto 151, 3) := by decide +kernel
theorem d_X_mergeBags_41 : decode b_X_mergeBags 41 = .ok (.aload_n 0, 1) := by decide +kernel
theorem d_X_mergeBags_42 : decode b_X_mergeBags 42 = .ok (.iload_n 3, 1) := by decide +kernel
theorem d_X_mergeBags_43 : decode b_X_mergeBags 43 = .ok (.iload 4, 2) := by decide +kernel
theorem d_X_mergeBags_45 : decode b_X_mergeBags 45 = .ok (.invokevirtual 133, 3) := by decide +kernel
theorem d_X_mergeBags_48 : decode b_X_mergeBags 48 = .ok (.istore 6, 2) := by decide +kernel
theorem d_X_mergeBags_50 : decode b_X_mergeBags 50 = .ok (.iload 6, 2) := by decide +kernel
theorem d_X_mergeBags_52 : decode b_X_mergeBags 52 = .ok (.ifCond .eq 15, 3) := by decide +kernel
theorem d_X_mergeBags_55 : decode b_X_mergeBags 55 = .ok (.aload_n 0, 1) := by decide +kernel
theorem d_X_mergeBags_56 : decode b_X_mergeBags 56 = .ok (.getfield 37, 3) := by decide +kernel
theorem d_X_mergeBags_59 : decode b_X_mergeBags 59 = .ok (.getfield 83, 3) := by decide +kernel
theorem d_X_mergeBags_62 : decode b_X_mergeBags 62 = .ok (.iload_n 3, 1) := by decide +kernel
theorem d_X_mergeBags_63 : decode b_X_mergeBags 63 = .ok (.iaload, 1) := by decide +kernel
theorem d_X_mergeBags_64 : decode b_X_mergeBags 64 = .ok (.goto 13, 3) := by decide +kernel
theorem d_X_mergeBags_67 : decode b_X_mergeBags 67 = .ok (.aload_n 0, 1) := by decide +kernel
theorem d_X_mergeBags_68 : decode b_X_mergeBags 68 = .ok (.getfield 40, 3) := by decide +kernel
theorem d_X_mergeBags_71 : decode b_X_mergeBags 71 = .ok (.getfield 83, 3) := by decide +kernel
theorem d_X_mergeBags_74 : decode b_X_mergeBags 74 = .ok (.iload 4, 2) := by decide +kernel
theorem d_X_mergeBags_76 : decode b_X_mergeBags 76 = .ok (.iaload, 1) := by decide +kernel
theorem d_X_mergeBags_77 : decode b_X_mergeBags 77 = .ok (.istore 7, 2) := by decide +kernel
theorem d_X_mergeBags_79 : decode b_X_mergeBags 79 = .ok (.iload 6, 2) := by decide +kernel
theorem d_X_mergeBags_81 : decode b_X_mergeBags 81 = .ok (.ifCond .eq 15, 3) := by decide +kernel
theorem d_X_mergeBags_84 : decode b_X_mergeBags 84 = .ok (.aload_n 0, 1) := by decide +kernel
theorem d_X_mergeBags_85 : decode b_X_mergeBags 85 = .ok (.getfield 37, 3) := by decide +kernel
theorem d_X_mergeBags_88 : decode b_X_mergeBags 88 = .ok (.getfield 87, 3) := by decide +kernel
theorem d_X_mergeBags_91 : decode b_X_mergeBags 91 = .ok (.iload_n 3, 1) := by decide +kernel
theorem d_X_mergeBags_92 : decode b_X_mergeBags 92 = .ok (.iaload, 1) := by decide +kernel
theorem d_X_mergeBags_93 : decode b_X_mergeBags 93 = .ok (.goto 13, 3) := by decide +kernel
theorem d_X_mergeBags_96 : decode b_X_mergeBags 96 = .ok (.aload_n 0, 1) := by decide +kernel
theorem d_X_mergeBags_97 : decode b_X_mergeBags 97 = .ok (.getfield 40, 3) := by decide +kernel
theorem d_X_mergeBags_100 : decode b_X_mergeBags 100 = .ok (.getfield 87, 3) := by decide +kernel
theorem d_X_mergeBags_103 : decode b_X_mergeBags 103 = .ok (.iload 4, 2) := by decide +kernel
theorem d_X_mergeBags_105 : decode b_X_mergeBags 105 = .ok (.iaload, 1) := by decide +kernel
theorem d_X_mergeBags_106 : decode b_X_mergeBags 106 = .ok (.istore 8, 2) := by decide +kernel
theorem d_X_mergeBags_108 : decode b_X_mergeBags 108 = .ok (.aload_n 0, 1) := by decide +kernel
theorem d_X_mergeBags_109 : decode b_X_mergeBags 109 = .ok (.getfield 37, 3) := by decide +kernel
theorem d_X_mergeBags_112 : decode b_X_mergeBags 112 = .ok (.iload_n 3, 1) := by decide +kernel
theorem d_X_mergeBags_113 : decode b_X_mergeBags 113 = .ok (.iload 7, 2) := by decide +kernel
theorem d_X_mergeBags_115 : decode b_X_mergeBags 115 = .ok (.iload 8, 2) := by decide +kernel
theorem d_X_mergeBags_117 : decode b_X_mergeBags 117 = .ok (.invokevirtual 136, 3) := by decide +kernel
theorem d_X_mergeBags_120 : decode b_X_mergeBags 120 = .ok (.istore 9, 2) := by decide +kernel
theorem d_X_mergeBags_122 : decode b_X_mergeBags 122 = .ok (.aload_n 0, 1) := by decide +kernel
theorem d_X_mergeBags_123 : decode b_X_mergeBags 123 = .ok (.getfield 40, 3) := by decide +kernel
theorem d_X_mergeBags_126 : decode b_X_mergeBags 126 = .ok (.iload 4, 2) := by decide +kernel
theorem d_X_mergeBags_128 : decode b_X_mergeBags 128 = .ok (.iload 7, 2) := by decide +kernel
theorem d_X_mergeBags_130 : decode b_X_mergeBags 130 = .ok (.iload 8, 2) := by decide +kernel
theorem d_X_mergeBags_132 : decode b_X_mergeBags 132 = .ok (.invokevirtual 136, 3) := by decide +kernel
theorem d_X_mergeBags_135 : decode b_X_mergeBags 135 = .ok (.istore 10, 2) := by decide +kernel
theorem d_X_mergeBags_137 : decode b_X_mergeBags 137 = .ok (.iload_n 1, 1) := by decide +kernel
theorem d_X_mergeBags_138 : decode b_X_mergeBags 138 = .ok (.iload 9, 2) := by decide +kernel
theorem d_X_mergeBags_140 : decode b_X_mergeBags 140 = .ok (.iload 10, 2) := by decide +kernel
theorem d_X_mergeBags_142 : decode b_X_mergeBags 142 = .ok (.invokestatic 139, 3) := by decide +kernel
theorem d_X_mergeBags_145 : decode b_X_mergeBags 145 = .ok (.istore 11, 2) := by decide +kernel
theorem d_X_mergeBags_147 : decode b_X_mergeBags 147 = .ok (.iconst 0, 1) := by decide +kernel
theorem d_X_mergeBags_148 : decode b_X_mergeBags 148 = .ok (.istore 12, 2) := by decide +kernel
theorem d_X_mergeBags_150 : decode b_X_mergeBags 150 = .ok (.iload 12, 2) := by decide +kernel
theorem d_X_mergeBags_152 : decode b_X_mergeBags 152 = .ok (.iload 11, 2) := by decide +kernel
theorem d_X_mergeBags_154 : decode b_X_mergeBags 154 = .ok (.if_icmp .ge 17, 3) := by decide +kernel
theorem d_X_mergeBags_157 : decode b_X_mergeBags 157 = .ok (.aload_n 2, 1) := by decide +kernel
theorem d_X_mergeBags_158 : decode b_X_mergeBags 158 = .ok (.iload 7, 2) := by decide +kernel
theorem d_X_mergeBags_160 : decode b_X_mergeBags 160 = .ok (.iload 8, 2) := by decide +kernel
theorem d_X_mergeBags_162 : decode b_X_mergeBags 162 = .ok (.invokevirtual 53, 3) := by decide +kernel
theorem d_X_mergeBags_165 : decode b_X_mergeBags 165 = .ok (.iinc 12 1, 3) := by decide +kernel
theorem d_X_mergeBags_168 : decode b_X_mergeBags 168 = .ok (.goto (-18), 3) := by decide +kernel
theorem d_X_mergeBags_171 : decode b_X_mergeBags 171 = .ok (.iload_n 3, 1) := by decide +kernel
theorem d_X_mergeBags_172 : decode b_X_mergeBags 172 = .ok (.iload 9, 2) := by decide +kernel
theorem d_X_mergeBags_174 : decode b_X_mergeBags 174 = .ok (.iadd, 1) := by decide +kernel
theorem d_X_mergeBags_175 : decode b_X_mergeBags 175 = .ok (.istore_n 3, 1) := by decide +kernel
theorem d_X_mergeBags_176 : decode b_X_mergeBags 176 = .ok (.iload 4, 2) := by decide +kernel
theorem d_X_mergeBags_178 : decode b_X_mergeBags 178 = .ok (.iload 10, 2) := by decide +kernel
theorem d_X_mergeBags_180 : decode b_X_mergeBags 180 = .ok (.iadd, 1) := by decide +kernel
theorem d_X_mergeBags_181 : decode b_X_mergeBags 181 = .ok (.istore 4, 2) := by decide +kernel
theorem d_X_mergeBags_183 : decode b_X_mergeBags 183 = .ok (.iinc 5 1, 3) := by decide +kernel
theorem d_X_mergeBags_186 : decode b_X_mergeBags 186 = .ok (.goto (-178), 3) := by decide +kernel
theorem d_X_mergeBags_189 : decode b_X_mergeBags 189 = .ok (.return_, 1) := by decide +kernel
theorem d_X_isNextFromA_0 : decode b_X_isNextFromA 0 = .ok (.iload_n 1, 1) := by decide +kernel
theorem d_X_isNextFromA_1 : decode b_X_isNextFromA 1 = .ok (.aload_n 0, 1) := by decide +kernel
theorem d_X_isNextFromA_2 : decode b_X_isNextFromA 2 = .ok (.getfield 37, 3) := by decide +kernel
theorem d_X_isNextFromA_5 : decode b_X_isNextFromA 5 = .ok (.getfield 50, 3) := by decide +kernel
theorem d_X_isNextFromA_8 : decode b_X_isNextFromA 8 = .ok (.if_icmp .lt 5, 3) := by decide +kernel
theorem d_X_isNextFromA_11 : decode b_X_isNextFromA 11 = .ok (.iconst 0, 1) := by decide +kernel
theorem d_X_isNextFromA_12 : decode b_X_isNextFromA 12 = .ok (.ireturn, 1) := by decide +kernel
theorem d_X_isNextFromA_13 : decode b_X_isNextFromA 13 = .ok (.iload_n 2, 1) := by decide +kernel
theorem d_X_isNextFromA_14 : decode b_X_isNextFromA 14 = .ok (.aload_n 0, 1) := by decide +kernel
theorem d_X_isNextFromA_15 : decode b_X_isNextFromA 15 = .ok (.getfield 40, 3) := by decide +kernel
theorem d_X_isNextFromA_18 : decode b_X_isNextFromA 18 = .ok (.getfield 50, 3) := by decide +kernel
theorem d_X_isNextFromA_21 : decode b_X_isNextFromA 21 = .ok (.if_icmp .lt 5, 3) := by decide +kernel
theorem d_X_isNextFromA_24 : decode b_X_isNextFromA 24 = .ok (.iconst 1, 1) := by decide +kernel
theorem d_X_isNextFromA_25 : decode b_X_isNextFromA 25 = .ok (.ireturn, 1) := by decide +kernel
theorem d_X_isNextFromA_26 : decode b_X_isNextFromA 26 = .ok (.iconst 2, 1) := by decide +kernel
theorem d_X_isNextFromA_27 : decode b_X_isNextFromA 27 = .ok (.aload_n 0, 1) := by decide +kernel
theorem d_X_isNextFromA_28 : decode b_X_isNextFromA 28 = .ok (.getfield 37, 3) := by decide +kernel
theorem d_X_isNextFromA_31 : decode b_X_isNextFromA 31 = .ok (.getfield 83, 3) := by decide +kernel
theorem d_X_isNextFromA_34 : decode b_X_isNextFromA 34 = .ok (.iload_n 1, 1) := by decide +kernel
theorem d_X_isNextFromA_35 : decode b_X_isNextFromA 35 = .ok (.iaload, 1) := by decide +kernel
theorem d_X_isNextFromA_36 : decode b_X_isNextFromA 36 = .ok (.aload_n 0, 1) := by decide +kernel
theorem d_X_isNextFromA_37 : decode b_X_isNextFromA 37 = .ok (.getfield 37, 3) := by decide +kernel
theorem d_X_isNextFromA_40 : decode b_X_isNextFromA 40 = .ok (.getfield 87, 3) := by decide +kernel
theorem d_X_isNextFromA_43 : decode b_X_isNextFromA 43 = .ok (.iload_n 1, 1) := by decide +kernel
theorem d_X_isNextFromA_44 : decode b_X_isNextFromA 44 = .ok (.iaload, 1) := by decide +kernel
theorem d_X_isNextFromA_45 : decode b_X_isNextFromA 45 = .ok (.aload_n 0, 1) := by decide +kernel
theorem d_X_isNextFromA_46 : decode b_X_isNextFromA 46 = .ok (.getfield 40, 3) := by decide +kernel
theorem d_X_isNextFromA_49 : decode b_X_isNextFromA 49 = .ok (.getfield 83, 3) := by decide +kernel
theorem d_X_isNextFromA_52 : decode b_X_isNextFromA 52 = .ok (.iload_n 2, 1) := by decide +kernel
theorem d_X_isNextFromA_53 : decode b_X_isNextFromA 53 = .ok (.iaload, 1) := by decide +kernel
theorem d_X_isNextFromA_54 : decode b_X_isNextFromA 54 = .ok (.aload_n 0, 1) := by decide +kernel
theorem d_X_isNextFromA_55 : decode b_X_isNextFromA 55 = .ok (.getfield 40, 3) := by decide +kernel
theorem d_X_isNextFromA_58 : decode b_X_isNextFromA 58 = .ok (.getfield 87, 3) := by decide +kernel
theorem d_X_isNextFromA_61 : decode b_X_isNextFromA 61 = .ok (.iload_n 2, 1) := by decide +kernel
theorem d_X_isNextFromA_62 : decode b_X_isNextFromA 62 = .ok (.iaload, 1) := by decide +kernel
theorem d_X_isNextFromA_63 : decode b_X_isNextFromA 63 = .ok (.invokestatic 142, 3) := by decide +kernel
theorem d_X_isNextFromA_66 : decode b_X_isNextFromA 66 = .ok (.istore_n 3, 1) := by decide +kernel
theorem d_X_isNextFromA_67 : decode b_X_isNextFromA 67 = .ok (.iload_n 3, 1) := by decide +kernel
theorem d_X_isNextFromA_68 : decode b_X_isNextFromA 68 = .ok (.ifCond .gt 7, 3) := by decide +kernel
theorem d_X_isNextFromA_71 : decode b_X_isNextFromA 71 = .ok (.iconst 1, 1) := by decide +kernel
theorem d_X_isNextFromA_72 : decode b_X_isNextFromA 72 = .ok (.goto 4, 3) := by decide +kernel
theorem d_X_isNextFromA_75 : decode b_X_isNextFromA 75 = .ok (.iconst 0, 1) := by decide +kernel
theorem d_X_isNextFromA_76 : decode b_X_isNextFromA 76 = .ok (.ireturn, 1) := by decide +kernel
theorem d_X_timesInResult_0 : decode b_X_timesInResult 0 = .ok (.iload_n 0, 1) := by decide +kernel
theorem d_X_timesInResult_1 : decode b_X_timesInResult 1 = .ok (.tableswitch 47 0 2 #[27, 33, 39], 27) := by decide +kernel
theorem d_X_timesInResult_28 : decode b_X_timesInResult 28 = .ok (.iload_n 1, 1) := by decide +kernel
theorem d_X_timesInResult_29 : decode b_X_timesInResult 29 = .ok (.iload_n 2, 1) := by decide +kernel
theorem d_X_timesInResult_30 : decode b_X_timesInResult 30 = .ok (.invokestatic 9, 3) := by decide +kernel
theorem d_X_timesInResult_33 : decode b_X_timesInResult 33 = .ok (.ireturn, 1) := by decide +kernel
theorem d_X_timesInResult_34 : decode b_X_timesInResult 34 = .ok (.iload_n 1, 1) := by decide +kernel
theorem d_X_timesInResult_35 : decode b_X_timesInResult 35 = .ok (.iload_n 2, 1) := by decide +kernel
theorem d_X_timesInResult_36 : decode b_X_timesInResult 36 = .ok (.invokestatic 15, 3) := by decide +kernel
theorem d_X_timesInResult_39 : decode b_X_timesInResult 39 = .ok (.ireturn, 1) := by decide +kernel
theorem d_X_timesInResult_40 : decode b_X_timesInResult 40 = .ok (.iload_n 1, 1) := by decide +kernel
theorem d_X_timesInResult_41 : decode b_X_timesInResult 41 = .ok (.iload_n 2, 1) := by decide +kernel
theorem d_X_timesInResult_42 : decode b_X_timesInResult 42 = .ok (.isub, 1) := by decide +kernel
theorem d_X_timesInResult_43 : decode b_X_timesInResult 43 = .ok (.iconst 0, 1) := by decide +kernel
theorem d_X_timesInResult_44 : decode b_X_timesInResult 44 = .ok (.invokestatic 9, 3) := by decide +kernel
theorem d_X_timesInResult_47 : decode b_X_timesInResult 47 = .ok (.ireturn, 1) := by decide +kernel
theorem d_X_timesInResult_48 : decode b_X_timesInResult 48 = .ok (.iload_n 1, 1) := by decide +kernel
theorem d_X_timesInResult_49 : decode b_X_timesInResult 49 = .ok (.iload_n 2, 1) := by decide +kernel
theorem d_X_timesInResult_50 : decode b_X_timesInResult 50 = .ok (.iadd, 1) := by decide +kernel
theorem d_X_timesInResult_51 : decode b_X_timesInResult 51 = .ok (.ireturn, 1) := by decide +kernel
theorem d_X_joinRanges_0 : decode b_X_joinRanges 0 = .ok (.iload_n 1, 1) := by decide +kernel
theorem d_X_joinRanges_1 : decode b_X_joinRanges 1 = .ok (.iload_n 2, 1) := by decide +kernel
theorem d_X_joinRanges_2 : decode b_X_joinRanges 2 = .ok (.if_icmp .ge 9, 3) := by decide +kernel
theorem d_X_joinRanges_5 : decode b_X_joinRanges 5 = .ok (.iload_n 3, 1) := by decide +kernel
theorem d_X_joinRanges_6 : decode b_X_joinRanges 6 = .ok (.iload 4, 2) := by decide +kernel
theorem d_X_joinRanges_8 : decode b_X_joinRanges 8 = .ok (.if_icmp .lt 5, 3) := by decide +kernel
theorem d_X_joinRanges_11 : decode b_X_joinRanges 11 = .ok (.lconst 0, 1) := by decide +kernel
theorem d_X_joinRanges_12 : decode b_X_joinRanges 12 = .ok (.lreturn, 1) := by decide +kernel
theorem d_X_joinRanges_13 : decode b_X_joinRanges 13 = .ok (.iload 5, 2) := by decide +kernel
theorem d_X_joinRanges_15 : decode b_X_joinRanges 15 = .ok (.iconst 3, 1) := by decide +kernel
theorem d_X_joinRanges_16 : decode b_X_joinRanges 16 = .ok (.if_icmp .ge 14, 3) := by decide +kernel
theorem d_X_joinRanges_19 : decode b_X_joinRanges 19 = .ok (.iload 4, 2) := by decide +kernel
theorem d_X_joinRanges_21 : decode b_X_joinRanges 21 = .ok (.iload_n 3, 1) := by decide +kernel
theorem d_X_joinRanges_22 : decode b_X_joinRanges 22 = .ok (.isub, 1) := by decide +kernel
theorem d_X_joinRanges_23 : decode b_X_joinRanges 23 = .ok (.aload_n 0, 1) := by decide +kernel
theorem d_X_joinRanges_24 : decode b_X_joinRanges 24 = .ok (.invokevirtual 129, 3) := by decide +kernel
theorem d_X_joinRanges_27 : decode b_X_joinRanges 27 = .ok (.if_icmp .gt 15, 3) := by decide +kernel
theorem d_X_joinRanges_30 : decode b_X_joinRanges 30 = .ok (.aload_n 0, 1) := by decide +kernel
theorem d_X_joinRanges_31 : decode b_X_joinRanges 31 = .ok (.iload_n 1, 1) := by decide +kernel
theorem d_X_joinRanges_32 : decode b_X_joinRanges 32 = .ok (.iload_n 2, 1) := by decide +kernel
theorem d_X_joinRanges_33 : decode b_X_joinRanges 33 = .ok (.iload_n 3, 1) := by decide +kernel
theorem d_X_joinRanges_34 : decode b_X_joinRanges 34 = .ok (.iload 4, 2) := by decide +kernel
theorem d_X_joinRanges_36 : decode b_X_joinRanges 36 = .ok (.aload 6, 2) := by decide +kernel
theorem d_X_joinRanges_38 : decode b_X_joinRanges 38 = .ok (.invokevirtual 146, 3) := by decide +kernel
theorem d_X_joinRanges_41 : decode b_X_joinRanges 41 = .ok (.lreturn, 1) := by decide +kernel
theorem d_X_joinRanges_42 : decode b_X_joinRanges 42 = .ok (.aload_n 0, 1) := by decide +kernel
theorem d_X_joinRanges_43 : decode b_X_joinRanges 43 = .ok (.aload_n 0, 1) := by decide +kernel
theorem d_X_joinRanges_44 : decode b_X_joinRanges 44 = .ok (.getfield 37, 3) := by decide +kernel
theorem d_X_joinRanges_47 : decode b_X_joinRanges 47 = .ok (.aload_n 0, 1) := by decide +kernel
theorem d_X_joinRanges_48 : decode b_X_joinRanges 48 = .ok (.getfield 37, 3) := by decide +kernel
theorem d_X_joinRanges_51 : decode b_X_joinRanges 51 = .ok (.getfield 87, 3) := by decide +kernel
theorem d_X_joinRanges_54 : decode b_X_joinRanges 54 = .ok (.iload_n 1, 1) := by decide +kernel
theorem d_X_joinRanges_55 : decode b_X_joinRanges 55 = .ok (.iload_n 2, 1) := by decide +kernel
theorem d_X_joinRanges_56 : decode b_X_joinRanges 56 = .ok (.iload 5, 2) := by decide +kernel
theorem d_X_joinRanges_58 : decode b_X_joinRanges 58 = .ok (.invokevirtual 150, 3) := by decide +kernel
theorem d_X_joinRanges_61 : decode b_X_joinRanges 61 = .ok (.aload_n 0, 1) := by decide +kernel
theorem d_X_joinRanges_62 : decode b_X_joinRanges 62 = .ok (.aload_n 0, 1) := by decide +kernel
theorem d_X_joinRanges_63 : decode b_X_joinRanges 63 = .ok (.getfield 40, 3) := by decide +kernel
theorem d_X_joinRanges_66 : decode b_X_joinRanges 66 = .ok (.aload_n 0, 1) := by decide +kernel
theorem d_X_joinRanges_67 : decode b_X_joinRanges 67 = .ok (.getfield 40, 3) := by decide +kernel
theorem d_X_joinRanges_70 : decode b_X_joinRanges 70 = .ok (.getfield 83, 3) := by decide +kernel
theorem d_X_joinRanges_73 : decode b_X_joinRanges 73 = .ok (.iload_n 3, 1) := by decide +kernel
theorem d_X_joinRanges_74 : decode b_X_joinRanges 74 = .ok (.iload 4, 2) := by decide +kernel
theorem d_X_joinRanges_76 : decode b_X_joinRanges 76 = .ok (.iload 5, 2) := by decide +kernel
theorem d_X_joinRanges_78 : decode b_X_joinRanges 78 = .ok (.invokevirtual 150, 3) := by decide +kernel
theorem d_X_joinRanges_81 : decode b_X_joinRanges 81 = .ok (.iload_n 2, 1) := by decide +kernel
theorem d_X_joinRanges_82 : decode b_X_joinRanges 82 = .ok (.iload_n 1, 1) := by decide +kernel
theorem d_X_joinRanges_83 : decode b_X_joinRanges 83 = .ok (.isub, 1) := by decide +kernel
theorem d_X_joinRanges_84 : decode b_X_joinRanges 84 = .ok (.invokestatic 68, 3) := by decide +kernel
theorem d_X_joinRanges_87 : decode b_X_joinRanges 87 = .ok (.iload 4, 2) := by decide +kernel
theorem d_X_joinRanges_89 : decode b_X_joinRanges 89 = .ok (.iload_n 3, 1) := by decide +kernel
theorem d_X_joinRanges_90 : decode b_X_joinRanges 90 = .ok (.isub, 1) := by decide +kernel
theorem d_X_joinRanges_91 : decode b_X_joinRanges 91 = .ok (.invokestatic 68, 3) := by decide +kernel
theorem d_X_joinRanges_94 : decode b_X_joinRanges 94 = .ok (.iadd, 1) := by decide +kernel
theorem d_X_joinRanges_95 : decode b_X_joinRanges 95 = .ok (.i2l, 1) := by decide +kernel
theorem d_X_joinRanges_96 : decode b_X_joinRanges 96 = .ok (.lstore 7, 2) := by decide +kernel
theorem d_X_joinRanges_98 : decode b_X_joinRanges 98 = .ok (.iload_n 1, 1) := by decide +kernel
theorem d_X_joinRanges_99 : decode b_X_joinRanges 99 = .ok (.istore 9, 2) := by decide +kernel
theorem d_X_joinRanges_101 : decode b_X_joinRanges 101 = .ok (.iload_n 3, 1) := by decide +kernel
theorem d_X_joinRanges_102 : decode b_X_joinRanges 102 = .ok (.istore 10, 2) := by decide +kernel
theorem d_X_joinRanges_104 : decode b_X_joinRanges 104 = .ok (.iconst 0, 1) := by decide +kernel
theorem d_X_joinRanges_105 : decode b_X_joinRanges 105 = .ok (.istore 11, 2) := by decide +kernel
theorem d_X_joinRanges_107 : decode b_X_joinRanges 107 = .ok (.iload 11, 2) := by decide +kernel
theorem d_X_joinRanges_109 : decode b_X_joinRanges 109 = .ok (.aload_n 0, 1) := by decide +kernel
theorem d_X_joinRanges_110 : decode b_X_joinRanges 110 = .ok (.getfield 18, 3) := by decide +kernel
theorem d_X_joinRanges_113 : decode b_X_joinRanges 113 = .ok (.iconst 1, 1) := by decide +kernel
theorem d_X_joinRanges_114 : decode b_X_joinRanges 114 = .ok (.isub, 1) := by decide +kernel
theorem d_X_joinRanges_115 : decode b_X_joinRanges 115 = .ok (.if_icmp .ge 104, 3) := by decide +kernel
theorem d_X_joinRanges_118 : decode b_X_joinRanges 118 = .ok (.aload_n 0, 1) := by decide +kernel
theorem d_X_joinRanges_119 : decode b_X_joinRanges 119 = .ok (.aload_n 0, 1) := by decide +kernel
theorem d_X_joinRanges_120 : decode b_X_joinRanges 120 = .ok (.getfield 37, 3) := by decide +kernel
theorem d_X_joinRanges_123 : decode b_X_joinRanges 123 = .ok (.getfield 87, 3) := by decide +kernel
theorem d_X_joinRanges_126 : decode b_X_joinRanges 126 = .ok (.iload 9, 2) := by decide +kernel
theorem d_X_joinRanges_128 : decode b_X_joinRanges 128 = .ok (.iload_n 2, 1) := by decide +kernel
theorem d_X_joinRanges_129 : decode b_X_joinRanges 129 = .ok (.iload 5, 2) := by decide +kernel
theorem d_X_joinRanges_131 : decode b_X_joinRanges 131 = .ok (.iload 11, 2) := by decide +kernel
theorem d_X_joinRanges_133 : decode b_X_joinRanges 133 = .ok (.invokevirtual 154, 3) := by decide +kernel
theorem d_X_joinRanges_136 : decode b_X_joinRanges 136 = .ok (.istore 12, 2) := by decide +kernel
theorem d_X_joinRanges_138 : decode b_X_joinRanges 138 = .ok (.aload_n 0, 1) := by decide +kernel
theorem d_X_joinRanges_139 : decode b_X_joinRanges 139 = .ok (.aload_n 0, 1) := by decide +kernel
theorem d_X_joinRanges_140 : decode b_X_joinRanges 140 = .ok (.getfield 40, 3) := by decide +kernel
theorem d_X_joinRanges_143 : decode b_X_joinRanges 143 = .ok (.getfield 83, 3) := by decide +kernel
theorem d_X_joinRanges_146 : decode b_X_joinRanges 146 = .ok (.iload 10, 2) := by decide +kernel
theorem d_X_joinRanges_148 : decode b_X_joinRanges 148 = .ok (.iload 4, 2) := by decide +kernel
theorem d_X_joinRanges_150 : decode b_X_joinRanges 150 = .ok (.iload 5, 2) := by decide +kernel
theorem d_X_joinRanges_152 : decode b_X_joinRanges 152 = .ok (.iload 11, 2) := by decide +kernel
theorem d_X_joinRanges_154 : decode b_X_joinRanges 154 = .ok (.invokevirtual 154, 3) := by decide +kernel
theorem d_X_joinRanges_157 : decode b_X_joinRanges 157 = .ok (.istore 13, 2) := by decide +kernel
theorem d_X_joinRanges_159 : decode b_X_joinRanges 159 = .ok (.lload 7, 2) := by decide +kernel
theorem d_X_joinRanges_161 : decode b_X_joinRanges 161 = .ok (.iload 12, 2) := by decide +kernel
theorem d_X_joinRanges_163 : decode b_X_joinRanges 163 = .ok (.iload 9, 2) := by decide +kernel
theorem d_X_joinRanges_165 : decode b_X_joinRanges 165 = .ok (.isub, 1) := by decide +kernel
theorem d_X_joinRanges_166 : decode b_X_joinRanges 166 = .ok (.invokestatic 68, 3) := by decide +kernel
theorem d_X_joinRanges_169 : decode b_X_joinRanges 169 = .ok (.iload 13, 2) := by decide +kernel
theorem d_X_joinRanges_171 : decode b_X_joinRanges 171 = .ok (.iload 10, 2) := by decide +kernel
theorem d_X_joinRanges_173 : decode b_X_joinRanges 173 = .ok (.isub, 1) := by decide +kernel
theorem d_X_joinRanges_174 : decode b_X_joinRanges 174 = .ok (.invokestatic 68, 3) := by decide +kernel
theorem d_X_joinRanges_177 : decode b_X_joinRanges 177 = .ok (.iadd, 1) := by decide +kernel
theorem d_X_joinRanges_178 : decode b_X_joinRanges 178 = .ok (.i2l, 1) := by decide +kernel
theorem d_X_joinRanges_179 : decode b_X_joinRanges 179 = .ok (.ladd, 1) := by decide +kernel
theorem d_X_joinRanges_180 : decode b_X_joinRanges 180 = .ok (.lstore 7, 2) := by decide +kernel
theorem d_X_joinRanges_182 : decode b_X_joinRanges 182 = .ok (.lload 7, 2) := by decide +kernel
theorem d_X_joinRanges_184 : decode b_X_joinRanges 184 = .ok (.aload_n 0, 1) := by decide +kernel
theorem d_X_joinRanges_185 : decode b_X_joinRanges 185 = .ok (.iload 9, 2) := by decide +kernel
theorem d_X_joinRanges_187 : decode b_X_joinRanges 187 = .ok (.iload 12, 2) := by decide +kernel
theorem d_X_joinRanges_189 : decode b_X_joinRanges 189 = .ok (.iload 10, 2) := by decide +kernel
theorem d_X_joinRanges_191 : decode b_X_joinRanges 191 = .ok (.iload 13, 2) := by decide +kernel
theorem d_X_joinRanges_193 : decode b_X_joinRanges 193 = .ok (.iload 5, 2) := by decide +kernel
theorem d_X_joinRanges_195 : decode b_X_joinRanges 195 = .ok (.iconst 1, 1) := by decide +kernel
theorem d_X_joinRanges_196 : decode b_X_joinRanges 196 = .ok (.iadd, 1) := by decide +kernel
theorem d_X_joinRanges_197 : decode b_X_joinRanges 197 = .ok (.aload 6, 2) := by decide +kernel
theorem d_X_joinRanges_199 : decode b_X_joinRanges 199 = .ok (.invokevirtual 113, 3) := by decide +kernel
theorem d_X_joinRanges_202 : decode b_X_joinRanges 202 = .ok (.ladd, 1) := by decide +kernel
theorem d_X_joinRanges_203 : decode b_X_joinRanges 203 = .ok (.lstore 7, 2) := by decide +kernel
theorem d_X_joinRanges_205 : decode b_X_joinRanges 205 = .ok (.iload 12, 2) := by decide +kernel
theorem d_X_joinRanges_207 : decode b_X_joinRanges 207 = .ok (.istore 9, 2) := by decide +kernel
theorem d_X_joinRanges_209 : decode b_X_joinRanges 209 = .ok (.iload 13, 2) := by decide +kernel
theorem d_X_joinRanges_211 : decode b_X_joinRanges 211 = .ok (.istore 10, 2) := by decide +kernel
theorem d_X_joinRanges_213 : decode b_X_joinRanges 213 = .ok (.iinc 11 1, 3) := by decide +kernel
theorem d_X_joinRanges_216 : decode b_X_joinRanges 216 = .ok (.goto (-109), 3) := by decide +kernel
theorem d_X_joinRanges_219 : decode b_X_joinRanges 219 = .ok (.lload 7, 2) := by decide +kernel
theorem d_X_joinRanges_221 : decode b_X_joinRanges 221 = .ok (.lreturn, 1) := by decide +kernel
theorem d_X_joinByChunks_0 : decode b_X_joinByChunks 0 = .ok (.aload_n 0, 1) := by decide +kernel
theorem d_X_joinByChunks_1 : decode b_X_joinByChunks 1 = .ok (.invokevirtual 129, 3) := by decide +kernel
theorem d_X_joinByChunks_4 : decode b_X_joinByChunks 4 = .ok (.istore 6, 2) := by decide +kernel
theorem d_X_joinByChunks_6 : decode b_X_joinByChunks 6 = .ok (.iload 4, 2) := by decide +kernel
theorem d_X_joinByChunks_8 : decode b_X_joinByChunks 8 = .ok (.iload_n 3, 1) := by decide +kernel
theorem d_X_joinByChunks_9 : decode b_X_joinByChunks 9 = .ok (.isub, 1) := by decide +kernel
theorem d_X_joinByChunks_10 : decode b_X_joinByChunks 10 = .ok (.iload 6, 2) := by decide +kernel
theorem d_X_joinByChunks_12 : decode b_X_joinByChunks 12 = .ok (.invokestatic 121, 3) := by decide +kernel
theorem d_X_joinByChunks_15 : decode b_X_joinByChunks 15 = .ok (.istore 7, 2) := by decide +kernel
theorem d_X_joinByChunks_17 : decode b_X_joinByChunks 17 = .ok (.iconst 0, 1) := by decide +kernel
theorem d_X_joinByChunks_18 : decode b_X_joinByChunks 18 = .ok (.istore 8, 2) := by decide +kernel
theorem d_X_joinByChunks_20 : decode b_X_joinByChunks 20 = .ok (.iload 8, 2) := by decide +kernel
theorem d_X_joinByChunks_22 : decode b_X_joinByChunks 22 = .ok (.iload 7, 2) := by decide +kernel
theorem d_X_joinByChunks_24 : decode b_X_joinByChunks 24 = .ok (.if_icmp .ge 38, 3) := by decide +kernel
theorem d_X_joinByChunks_27 : decode b_X_joinByChunks 27 = .ok (.iload_n 3, 1) := by decide +kernel
theorem d_X_joinByChunks_28 : decode b_X_joinByChunks 28 = .ok (.iload 8, 2) := by decide +kernel
theorem d_X_joinByChunks_30 : decode b_X_joinByChunks 30 = .ok (.iload 6, 2) := by decide +kernel
theorem d_X_joinByChunks_32 : decode b_X_joinByChunks 32 = .ok (.imul, 1) := by decide +kernel
theorem d_X_joinByChunks_33 : decode b_X_joinByChunks 33 = .ok (.iadd, 1) := by decide +kernel
theorem d_X_joinByChunks_34 : decode b_X_joinByChunks 34 = .ok (.istore 9, 2) := by decide +kernel
theorem d_X_joinByChunks_36 : decode b_X_joinByChunks 36 = .ok (.aload_n 0, 1) := by decide +kernel
theorem d_X_joinByChunks_37 : decode b_X_joinByChunks 37 = .ok (.iload_n 1, 1) := by decide +kernel
theorem d_X_joinByChunks_38 : decode b_X_joinByChunks 38 = .ok (.iload_n 2, 1) := by decide +kernel
theorem d_X_joinByChunks_39 : decode b_X_joinByChunks 39 = .ok (.iload 9, 2) := by decide +kernel
theorem d_X_joinByChunks_41 : decode b_X_joinByChunks 41 = .ok (.iload 9, 2) := by decide +kernel
theorem d_X_joinByChunks_43 : decode b_X_joinByChunks 43 = .ok (.iload 6, 2) := by decide +kernel
theorem d_X_joinByChunks_45 : decode b_X_joinByChunks 45 = .ok (.iadd, 1) := by decide +kernel
theorem d_X_joinByChunks_46 : decode b_X_joinByChunks 46 = .ok (.iload 4, 2) := by decide +kernel
theorem d_X_joinByChunks_48 : decode b_X_joinByChunks 48 = .ok (.invokestatic 15, 3) := by decide +kernel
theorem d_X_joinByChunks_51 : decode b_X_joinByChunks 51 = .ok (.aload 5, 2) := by decide +kernel
theorem d_X_joinByChunks_53 : decode b_X_joinByChunks 53 = .ok (.invokevirtual 158, 3) := by decide +kernel
theorem d_X_joinByChunks_56 : decode b_X_joinByChunks 56 = .ok (.iinc 8 1, 3) := by decide +kernel
theorem d_X_joinByChunks_59 : decode b_X_joinByChunks 59 = .ok (.goto (-39), 3) := by decide +kernel
theorem d_X_joinByChunks_62 : decode b_X_joinByChunks 62 = .ok (.iload 4, 2) := by decide +kernel
theorem d_X_joinByChunks_64 : decode b_X_joinByChunks 64 = .ok (.iload_n 3, 1) := by decide +kernel
theorem d_X_joinByChunks_65 : decode b_X_joinByChunks 65 = .ok (.isub, 1) := by decide +kernel
theorem d_X_joinByChunks_66 : decode b_X_joinByChunks 66 = .ok (.invokestatic 68, 3) := by decide +kernel
theorem d_X_joinByChunks_69 : decode b_X_joinByChunks 69 = .ok (.i2l, 1) := by decide +kernel
theorem d_X_joinByChunks_70 : decode b_X_joinByChunks 70 = .ok (.iload 7, 2) := by decide +kernel
theorem d_X_joinByChunks_72 : decode b_X_joinByChunks 72 = .ok (.i2l, 1) := by decide +kernel
theorem d_X_joinByChunks_73 : decode b_X_joinByChunks 73 = .ok (.iload_n 2, 1) := by decide +kernel
theorem d_X_joinByChunks_74 : decode b_X_joinByChunks 74 = .ok (.iload_n 1, 1) := by decide +kernel
theorem d_X_joinByChunks_75 : decode b_X_joinByChunks 75 = .ok (.isub, 1) := by decide +kernel
theorem d_X_joinByChunks_76 : decode b_X_joinByChunks 76 = .ok (.invokestatic 68, 3) := by decide +kernel
theorem d_X_joinByChunks_79 : decode b_X_joinByChunks 79 = .ok (.i2l, 1) := by decide +kernel
theorem d_X_joinByChunks_80 : decode b_X_joinByChunks 80 = .ok (.lmul, 1) := by decide +kernel
theorem d_X_joinByChunks_81 : decode b_X_joinByChunks 81 = .ok (.ladd, 1) := by decide +kernel
theorem d_X_joinByChunks_82 : decode b_X_joinByChunks 82 = .ok (.lreturn, 1) := by decide +kernel
theorem d_X_joinWithChunk_0 : decode b_X_joinWithChunk 0 = .ok (.iload_n 1, 1) := by decide +kernel
theorem d_X_joinWithChunk_1 : decode b_X_joinWithChunk 1 = .ok (.istore 6, 2) := by decide +kernel
theorem d_X_joinWithChunk_3 : decode b_X_joinWithChunk 3 = .ok (.iload 6, 2) := by decide +kernel
theorem d_X_joinWithChunk_5 : decode b_X_joinWithChunk 5 = .ok (.iload_n 2, 1) := by decide +kernel
theorem d_X_joinWithChunk_6 : decode b_X_joinWithChunk 6 = .ok (.if_icmp .ge 73, 3) := by decide +kernel
theorem d_X_joinWithChunk_9 : decode b_X_joinWithChunk 9 = .ok (.iload_n 3, 1) := by decide +kernel
theorem d_X_joinWithChunk_10 : decode b_X_joinWithChunk 10 = .ok (.istore 7, 2) := by decide +kernel
theorem d_X_joinWithChunk_12 : decode b_X_joinWithChunk 12 = .ok (.iload 7, 2) := by decide +kernel
theorem d_X_joinWithChunk_14 : decode b_X_joinWithChunk 14 = .ok (.iload 4, 2) := by decide +kernel
theorem d_X_joinWithChunk_16 : decode b_X_joinWithChunk 16 = .ok (.if_icmp .ge 57, 3) := by decide +kernel
theorem d_X_joinWithChunk_19 : decode b_X_joinWithChunk 19 = .ok (.aload_n 0, 1) := by decide +kernel
theorem d_X_joinWithChunk_20 : decode b_X_joinWithChunk 20 = .ok (.getfield 37, 3) := by decide +kernel
theorem d_X_joinWithChunk_23 : decode b_X_joinWithChunk 23 = .ok (.getfield 87, 3) := by decide +kernel
theorem d_X_joinWithChunk_26 : decode b_X_joinWithChunk 26 = .ok (.iload 6, 2) := by decide +kernel
theorem d_X_joinWithChunk_28 : decode b_X_joinWithChunk 28 = .ok (.iaload, 1) := by decide +kernel
theorem d_X_joinWithChunk_29 : decode b_X_joinWithChunk 29 = .ok (.aload_n 0, 1) := by decide +kernel
theorem d_X_joinWithChunk_30 : decode b_X_joinWithChunk 30 = .ok (.getfield 40, 3) := by decide +kernel
theorem d_X_joinWithChunk_33 : decode b_X_joinWithChunk 33 = .ok (.getfield 83, 3) := by decide +kernel
theorem d_X_joinWithChunk_36 : decode b_X_joinWithChunk 36 = .ok (.iload 7, 2) := by decide +kernel
theorem d_X_joinWithChunk_38 : decode b_X_joinWithChunk 38 = .ok (.iaload, 1) := by decide +kernel
theorem d_X_joinWithChunk_39 : decode b_X_joinWithChunk 39 = .ok (.if_icmp .ne 28, 3) := by decide +kernel
theorem d_X_joinWithChunk_42 : decode b_X_joinWithChunk 42 = .ok (.aload 5, 2) := by decide +kernel
theorem d_X_joinWithChunk_44 : decode b_X_joinWithChunk 44 = .ok (.aload_n 0, 1) := by decide +kernel
theorem d_X_joinWithChunk_45 : decode b_X_joinWithChunk 45 = .ok (.getfield 37, 3) := by decide +kernel
theorem d_X_joinWithChunk_48 : decode b_X_joinWithChunk 48 = .ok (.getfield 83, 3) := by decide +kernel
theorem d_X_joinWithChunk_51 : decode b_X_joinWithChunk 51 = .ok (.iload 6, 2) := by decide +kernel
theorem d_X_joinWithChunk_53 : decode b_X_joinWithChunk 53 = .ok (.iaload, 1) := by decide +kernel
theorem d_X_joinWithChunk_54 : decode b_X_joinWithChunk 54 = .ok (.aload_n 0, 1) := by decide +kernel
theorem d_X_joinWithChunk_55 : decode b_X_joinWithChunk 55 = .ok (.getfield 40, 3) := by decide +kernel
theorem d_X_joinWithChunk_58 : decode b_X_joinWithChunk 58 = .ok (.getfield 87, 3) := by decide +kernel
theorem d_X_joinWithChunk_61 : decode b_X_joinWithChunk 61 = .ok (.iload 7, 2) := by decide +kernel
theorem d_X_joinWithChunk_63 : decode b_X_joinWithChunk 63 = .ok (.iaload, 1) := by decide +kernel
theorem d_X_joinWithChunk_64 : decode b_X_joinWithChunk 64 = .ok (.invokevirtual 53, 3) := by decide +kernel
theorem d_X_joinWithChunk_67 : decode b_X_joinWithChunk 67 = .ok (.iinc 7 1, 3) := by decide +kernel
theorem d_X_joinWithChunk_70 : decode b_X_joinWithChunk 70 = .ok (.goto (-58), 3) := by decide +kernel
theorem d_X_joinWithChunk_73 : decode b_X_joinWithChunk 73 = .ok (.iinc 6 1, 3) := by decide +kernel
theorem d_X_joinWithChunk_76 : decode b_X_joinWithChunk 76 = .ok (.goto (-73), 3) := by decide +kernel
theorem d_X_joinWithChunk_79 : decode b_X_joinWithChunk 79 = .ok (.return_, 1) := by decide +kernel
theorem d_X_partition_0 : decode b_X_partition 0 = .ok (.aload_n 0, 1) := by decide +kernel
theorem d_X_partition_1 : decode b_X_partition 1 = .ok (.getfield 43, 3) := by decide +kernel
theorem d_X_partition_4 : decode b_X_partition 4 = .ok (.invokevirtual 65, 3) := by decide +kernel
theorem d_X_partition_7 : decode b_X_partition 7 = .ok (.iconst 0, 1) := by decide +kernel
theorem d_X_partition_8 : decode b_X_partition 8 = .ok (.istore 6, 2) := by decide +kernel
theorem d_X_partition_10 : decode b_X_partition 10 = .ok (.iload 6, 2) := by decide +kernel
theorem d_X_partition_12 : decode b_X_partition 12 = .ok (.aload_n 0, 1) := by decide +kernel
theorem d_X_partition_13 : decode b_X_partition 13 = .ok (.getfield 18, 3) := by decide +kernel
theorem d_X_partition_16 : decode b_X_partition 16 = .ok (.iconst 1, 1) := by decide +kernel
theorem d_X_partition_17 : decode b_X_partition 17 = .ok (.isub, 1) := by decide +kernel
theorem d_X_partition_18 : decode b_X_partition 18 = .ok (.if_icmp .ge 61, 3) := by decide +kernel
theorem d_X_partition_21 : decode b_X_partition 21 = .ok (.iload_n 3, 1) := by decide +kernel
theorem d_X_partition_22 : decode b_X_partition 22 = .ok (.istore 7, 2) := by decide +kernel
theorem d_X_partition_24 : decode b_X_partition 24 = .ok (.iload 7, 2) := by decide +kernel
theorem d_X_partition_26 : decode b_X_partition 26 = .ok (.iload 4, 2) := by decide +kernel
theorem d_X_partition_28 : decode b_X_partition 28 = .ok (.if_icmp .ge 45, 3) := by decide +kernel
theorem d_X_partition_31 : decode b_X_partition 31 = .ok (.aload_n 0, 1) := by decide +kernel
theorem d_X_partition_32 : decode b_X_partition 32 = .ok (.aload_n 2, 1) := by decide +kernel
theorem d_X_partition_33 : decode b_X_partition 33 = .ok (.iload 7, 2) := by decide +kernel
theorem d_X_partition_35 : decode b_X_partition 35 = .ok (.iaload, 1) := by decide +kernel
theorem d_X_partition_36 : decode b_X_partition 36 = .ok (.iload 5, 2) := by decide +kernel
theorem d_X_partition_38 : decode b_X_partition 38 = .ok (.invokevirtual 162, 3) := by decide +kernel
theorem d_X_partition_41 : decode b_X_partition 41 = .ok (.iload 6, 2) := by decide +kernel
theorem d_X_partition_43 : decode b_X_partition 43 = .ok (.if_icmp .ne 24, 3) := by decide +kernel
theorem d_X_partition_46 : decode b_X_partition 46 = .ok (.aload_n 0, 1) := by decide +kernel
theorem d_X_partition_47 : decode b_X_partition 47 = .ok (.getfield 43, 3) := by decide +kernel
theorem d_X_partition_50 : decode b_X_partition 50 = .ok (.aload_n 1, 1) := by decide +kernel
theorem d_X_partition_51 : decode b_X_partition 51 = .ok (.getfield 83, 3) := by decide +kernel
theorem d_X_partition_54 : decode b_X_partition 54 = .ok (.iload 7, 2) := by decide +kernel
theorem d_X_partition_56 : decode b_X_partition 56 = .ok (.iaload, 1) := by decide +kernel
theorem d_X_partition_57 : decode b_X_partition 57 = .ok (.aload_n 1, 1) := by decide +kernel
theorem d_X_partition_58 : decode b_X_partition 58 = .ok (.getfield 87, 3) := by decide +kernel
theorem d_X_partition_61 : decode b_X_partition 61 = .ok (.iload 7, 2) := by decide +kernel
theorem d_X_partition_63 : decode b_X_partition 63 = .ok (.iaload, 1) := by decide +kernel
theorem d_X_partition_64 : decode b_X_partition 64 = .ok (.invokevirtual 53, 3) := by decide +kernel
theorem d_X_partition_67 : decode b_X_partition 67 = .ok (.iinc 7 1, 3) := by decide +kernel
theorem d_X_partition_70 : decode b_X_partition 70 = .ok (.goto (-46), 3) := by decide +kernel
theorem d_X_partition_73 : decode b_X_partition 73 = .ok (.iinc 6 1, 3) := by decide +kernel
theorem d_X_partition_76 : decode b_X_partition 76 = .ok (.goto (-66), 3) := by decide +kernel
theorem d_X_partition_79 : decode b_X_partition 79 = .ok (.aload_n 0, 1) := by decide +kernel
theorem d_X_partition_80 : decode b_X_partition 80 = .ok (.getfield 43, 3) := by decide +kernel
theorem d_X_partition_83 : decode b_X_partition 83 = .ok (.getfield 83, 3) := by decide +kernel
theorem d_X_partition_86 : decode b_X_partition 86 = .ok (.iconst 0, 1) := by decide +kernel
theorem d_X_partition_87 : decode b_X_partition 87 = .ok (.aload_n 1, 1) := by decide +kernel
theorem d_X_partition_88 : decode b_X_partition 88 = .ok (.getfield 83, 3) := by decide +kernel
theorem d_X_partition_91 : decode b_X_partition 91 = .ok (.iload_n 3, 1) := by decide +kernel
theorem d_X_partition_92 : decode b_X_partition 92 = .ok (.iload 4, 2) := by decide +kernel
theorem d_X_partition_94 : decode b_X_partition 94 = .ok (.iload_n 3, 1) := by decide +kernel
theorem d_X_partition_95 : decode b_X_partition 95 = .ok (.isub, 1) := by decide +kernel
theorem d_X_partition_96 : decode b_X_partition 96 = .ok (.invokestatic 165, 3) := by decide +kernel
theorem d_X_partition_99 : decode b_X_partition 99 = .ok (.aload_n 0, 1) := by decide +kernel
theorem d_X_partition_100 : decode b_X_partition 100 = .ok (.getfield 43, 3) := by decide +kernel
theorem d_X_partition_103 : decode b_X_partition 103 = .ok (.getfield 87, 3) := by decide +kernel
theorem d_X_partition_106 : decode b_X_partition 106 = .ok (.iconst 0, 1) := by decide +kernel
theorem d_X_partition_107 : decode b_X_partition 107 = .ok (.aload_n 1, 1) := by decide +kernel
theorem d_X_partition_108 : decode b_X_partition 108 = .ok (.getfield 87, 3) := by decide +kernel
theorem d_X_partition_111 : decode b_X_partition 111 = .ok (.iload_n 3, 1) := by decide +kernel
theorem d_X_partition_112 : decode b_X_partition 112 = .ok (.iload 4, 2) := by decide +kernel
theorem d_X_partition_114 : decode b_X_partition 114 = .ok (.iload_n 3, 1) := by decide +kernel
theorem d_X_partition_115 : decode b_X_partition 115 = .ok (.isub, 1) := by decide +kernel
theorem d_X_partition_116 : decode b_X_partition 116 = .ok (.invokestatic 165, 3) := by decide +kernel
theorem d_X_partition_119 : decode b_X_partition 119 = .ok (.return_, 1) := by decide +kernel
theorem d_X_endOfPart_0 : decode b_X_endOfPart 0 = .ok (.iload_n 2, 1) := by decide +kernel
theorem d_X_endOfPart_1 : decode b_X_endOfPart 1 = .ok (.istore 6, 2) := by decide +kernel
theorem d_X_endOfPart_3 : decode b_X_endOfPart 3 = .ok (.iload 6, 2) := by decide +kernel
theorem d_X_endOfPart_5 : decode b_X_endOfPart 5 = .ok (.iload_n 3, 1) := by decide +kernel
theorem d_X_endOfPart_6 : decode b_X_endOfPart 6 = .ok (.if_icmp .ge 24, 3) := by decide +kernel
theorem d_X_endOfPart_9 : decode b_X_endOfPart 9 = .ok (.aload_n 0, 1) := by decide +kernel
theorem d_X_endOfPart_10 : decode b_X_endOfPart 10 = .ok (.aload_n 1, 1) := by decide +kernel
theorem d_X_endOfPart_11 : decode b_X_endOfPart 11 = .ok (.iload 6, 2) := by decide +kernel
theorem d_X_endOfPart_13 : decode b_X_endOfPart 13 = .ok (.iaload, 1) := by decide +kernel
theorem d_X_endOfPart_14 : decode b_X_endOfPart 14 = .ok (.iload 4, 2) := by decide +kernel
theorem d_X_endOfPart_16 : decode b_X_endOfPart 16 = .ok (.invokevirtual 162, 3) := by decide +kernel
theorem d_X_endOfPart_19 : decode b_X_endOfPart 19 = .ok (.iload 5, 2) := by decide +kernel
theorem d_X_endOfPart_21 : decode b_X_endOfPart 21 = .ok (.if_icmp .ne 9, 3) := by decide +kernel
theorem d_X_endOfPart_24 : decode b_X_endOfPart 24 = .ok (.iinc 6 1, 3) := by decide +kernel
theorem d_X_endOfPart_27 : decode b_X_endOfPart 27 = .ok (.goto (-24), 3) := by decide +kernel
theorem d_X_endOfPart_30 : decode b_X_endOfPart 30 = .ok (.iload 6, 2) := by decide +kernel
theorem d_X_endOfPart_32 : decode b_X_endOfPart 32 = .ok (.ireturn, 1) := by decide +kernel
theorem d_X_digitOf_0 : decode b_X_digitOf 0 = .ok (.aload_n 0, 1) := by decide +kernel
theorem d_X_digitOf_1 : decode b_X_digitOf 1 = .ok (.getfield 18, 3) := by decide +kernel
theorem d_X_digitOf_4 : decode b_X_digitOf 4 = .ok (.iconst 1, 1) := by decide +kernel
theorem d_X_digitOf_5 : decode b_X_digitOf 5 = .ok (.isub, 1) := by decide +kernel
theorem d_X_digitOf_6 : decode b_X_digitOf 6 = .ok (.istore_n 3, 1) := by decide +kernel
theorem d_X_digitOf_7 : decode b_X_digitOf 7 = .ok (.iload_n 1, 1) := by decide +kernel
theorem d_X_digitOf_8 : decode b_X_digitOf 8 = .ok (.iload_n 3, 1) := by decide +kernel
theorem d_X_digitOf_9 : decode b_X_digitOf 9 = .ok (.iload_n 3, 1) := by decide +kernel
theorem d_X_digitOf_10 : decode b_X_digitOf 10 = .ok (.imul, 1) := by decide +kernel
theorem d_X_digitOf_11 : decode b_X_digitOf 11 = .ok (.iload_n 3, 1) := by decide +kernel
theorem d_X_digitOf_12 : decode b_X_digitOf 12 = .ok (.imul, 1) := by decide +kernel
theorem d_X_digitOf_13 : decode b_X_digitOf 13 = .ok (.invokestatic 171, 3) := by decide +kernel
theorem d_X_digitOf_16 : decode b_X_digitOf 16 = .ok (.istore 4, 2) := by decide +kernel
theorem d_X_digitOf_18 : decode b_X_digitOf 18 = .ok (.iconst 0, 1) := by decide +kernel
theorem d_X_digitOf_19 : decode b_X_digitOf 19 = .ok (.istore 5, 2) := by decide +kernel
theorem d_X_digitOf_21 : decode b_X_digitOf 21 = .ok (.iload 5, 2) := by decide +kernel
theorem d_X_digitOf_23 : decode b_X_digitOf 23 = .ok (.iload_n 2, 1) := by decide +kernel
theorem d_X_digitOf_24 : decode b_X_digitOf 24 = .ok (.if_icmp .ge 15, 3) := by decide +kernel
theorem d_X_digitOf_27 : decode b_X_digitOf 27 = .ok (.iload 4, 2) := by decide +kernel
theorem d_X_digitOf_29 : decode b_X_digitOf 29 = .ok (.iload_n 3, 1) := by decide +kernel
theorem d_X_digitOf_30 : decode b_X_digitOf 30 = .ok (.idiv, 1) := by decide +kernel
theorem d_X_digitOf_31 : decode b_X_digitOf 31 = .ok (.istore 4, 2) := by decide +kernel
theorem d_X_digitOf_33 : decode b_X_digitOf 33 = .ok (.iinc 5 1, 3) := by decide +kernel
theorem d_X_digitOf_36 : decode b_X_digitOf 36 = .ok (.goto (-15), 3) := by decide +kernel
theorem d_X_digitOf_39 : decode b_X_digitOf 39 = .ok (.iload 4, 2) := by decide +kernel
theorem d_X_digitOf_41 : decode b_X_digitOf 41 = .ok (.iload_n 3, 1) := by decide +kernel
theorem d_X_digitOf_42 : decode b_X_digitOf 42 = .ok (.irem, 1) := by decide +kernel
theorem d_X_digitOf_43 : decode b_X_digitOf 43 = .ok (.ireturn, 1) := by decide +kernel
theorem d_X_compareRows_0 : decode b_X_compareRows 0 = .ok (.iload_n 0, 1) := by decide +kernel
theorem d_X_compareRows_1 : decode b_X_compareRows 1 = .ok (.iconst 1, 1) := by decide +kernel
theorem d_X_compareRows_2 : decode b_X_compareRows 2 = .ok (.if_icmp .ne 10, 3) := by decide +kernel
theorem d_X_compareRows_5 : decode b_X_compareRows 5 = .ok (.iload_n 2, 1) := by decide +kernel
theorem d_X_compareRows_6 : decode b_X_compareRows 6 = .ok (.iload 4, 2) := by decide +kernel
theorem d_X_compareRows_8 : decode b_X_compareRows 8 = .ok (.invokestatic 174, 3) := by decide +kernel
theorem d_X_compareRows_11 : decode b_X_compareRows 11 = .ok (.ireturn, 1) := by decide +kernel
theorem d_X_compareRows_12 : decode b_X_compareRows 12 = .ok (.iload_n 1, 1) := by decide +kernel
theorem d_X_compareRows_13 : decode b_X_compareRows 13 = .ok (.iload_n 3, 1) := by decide +kernel
theorem d_X_compareRows_14 : decode b_X_compareRows 14 = .ok (.invokestatic 174, 3) := by decide +kernel
theorem d_X_compareRows_17 : decode b_X_compareRows 17 = .ok (.istore 5, 2) := by decide +kernel
theorem d_X_compareRows_19 : decode b_X_compareRows 19 = .ok (.iload_n 0, 1) := by decide +kernel
theorem d_X_compareRows_20 : decode b_X_compareRows 20 = .ok (.ifCond .eq 8, 3) := by decide +kernel
theorem d_X_compareRows_23 : decode b_X_compareRows 23 = .ok (.iload 5, 2) := by decide +kernel
theorem d_X_compareRows_25 : decode b_X_compareRows 25 = .ok (.ifCond .eq 6, 3) := by decide +kernel
theorem d_X_compareRows_28 : decode b_X_compareRows 28 = .ok (.iload 5, 2) := by decide +kernel
theorem d_X_compareRows_30 : decode b_X_compareRows 30 = .ok (.ireturn, 1) := by decide +kernel
theorem d_X_compareRows_31 : decode b_X_compareRows 31 = .ok (.iload_n 2, 1) := by decide +kernel
theorem d_X_compareRows_32 : decode b_X_compareRows 32 = .ok (.iload 4, 2) := by decide +kernel
theorem d_X_compareRows_34 : decode b_X_compareRows 34 = .ok (.invokestatic 174, 3) := by decide +kernel
theorem d_X_compareRows_37 : decode b_X_compareRows 37 = .ok (.ireturn, 1) := by decide +kernel
