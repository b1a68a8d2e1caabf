theorem d_T_init_0 : decode b_T_init 0 = .ok (.aload_n 0, 1) := by decide +kernel
theorem d_T_init_1 : decode b_T_init 1 = .ok (.invokespecial 3, 3) := by decide +kernel
theorem d_T_init_4 : decode b_T_init 4 = .ok (.aload_n 0, 1) := by decide +kernel
theorem d_T_init_5 : decode b_T_init 5 = .ok (.bipush 60, 2) := by decide +kernel
theorem d_T_init_7 : decode b_T_init 7 = .ok (.newarray .int, 2) := by decide +kernel
theorem d_T_init_9 : decode b_T_init 9 = .ok (.putfield 9, 3) := by decide +kernel
theorem d_T_init_12 : decode b_T_init 12 = .ok (.aload_n 0, 1) := by decide +kernel
theorem d_T_init_13 : decode b_T_init 13 = .ok (.bipush 60, 2) := by decide +kernel
theorem d_T_init_15 : decode b_T_init 15 = .ok (.newarray .int, 2) := by decide +kernel
theorem d_T_init_17 : decode b_T_init 17 = .ok (.putfield 15, 3) := by decide +kernel
theorem d_T_init_20 : decode b_T_init 20 = .ok (.return_, 1) := by decide +kernel
theorem d_T_clear_0 : decode b_T_clear 0 = .ok (.aload_n 0, 1) := by decide +kernel
theorem d_T_clear_1 : decode b_T_clear 1 = .ok (.iconst 0, 1) := by decide +kernel
theorem d_T_clear_2 : decode b_T_clear 2 = .ok (.putfield 18, 3) := by decide +kernel
theorem d_T_clear_5 : decode b_T_clear 5 = .ok (.aload_n 0, 1) := by decide +kernel
theorem d_T_clear_6 : decode b_T_clear 6 = .ok (.iconst 0, 1) := by decide +kernel
theorem d_T_clear_7 : decode b_T_clear 7 = .ok (.putfield 22, 3) := by decide +kernel
theorem d_T_clear_10 : decode b_T_clear 10 = .ok (.return_, 1) := by decide +kernel
theorem d_T_append_0 : decode b_T_append 0 = .ok (.aload_n 0, 1) := by decide +kernel
theorem d_T_append_1 : decode b_T_append 1 = .ok (.getfield 18, 3) := by decide +kernel
theorem d_T_append_4 : decode b_T_append 4 = .ok (.bipush 60, 2) := by decide +kernel
theorem d_T_append_6 : decode b_T_append 6 = .ok (.if_icmp .lt 9, 3) := by decide +kernel
theorem d_T_append_9 : decode b_T_append 9 = .ok (.aload_n 0, 1) := by decide +kernel
theorem d_T_append_10 : decode b_T_append 10 = .ok (.iconst 1, 1) := by decide +kernel
theorem d_T_append_11 : decode b_T_append 11 = .ok (.putfield 22, 3) := by decide +kernel
theorem d_T_append_14 : decode b_T_append 14 = .ok (.return_, 1) := by decide +kernel
theorem d_T_append_15 : decode b_T_append 15 = .ok (.aload_n 0, 1) := by decide +kernel
theorem d_T_append_16 : decode b_T_append 16 = .ok (.getfield 9, 3) := by decide +kernel
theorem d_T_append_19 : decode b_T_append 19 = .ok (.aload_n 0, 1) := by decide +kernel
theorem d_T_append_20 : decode b_T_append 20 = .ok (.getfield 18, 3) := by decide +kernel
theorem d_T_append_23 : decode b_T_append 23 = .ok (.iload_n 1, 1) := by decide +kernel
theorem d_T_append_24 : decode b_T_append 24 = .ok (.iastore, 1) := by decide +kernel
theorem d_T_append_25 : decode b_T_append 25 = .ok (.aload_n 0, 1) := by decide +kernel
theorem d_T_append_26 : decode b_T_append 26 = .ok (.getfield 15, 3) := by decide +kernel
theorem d_T_append_29 : decode b_T_append 29 = .ok (.aload_n 0, 1) := by decide +kernel
theorem d_T_append_30 : decode b_T_append 30 = .ok (.getfield 18, 3) := by decide +kernel
theorem d_T_append_33 : decode b_T_append 33 = .ok (.iload_n 2, 1) := by decide +kernel
theorem d_T_append_34 : decode b_T_append 34 = .ok (.iastore, 1) := by decide +kernel
theorem d_T_append_35 : decode b_T_append 35 = .ok (.aload_n 0, 1) := by decide +kernel
theorem d_T_append_36 : decode b_T_append 36 = .ok (.dup, 1) := by decide +kernel
theorem d_T_append_37 : decode b_T_append 37 = .ok (.getfield 18, 3) := by decide +kernel
theorem d_T_append_40 : decode b_T_append 40 = .ok (.iconst 1, 1) := by decide +kernel
theorem d_T_append_41 : decode b_T_append 41 = .ok (.iadd, 1) := by decide +kernel
theorem d_T_append_42 : decode b_T_append 42 = .ok (.putfield 18, 3) := by decide +kernel
theorem d_T_append_45 : decode b_T_append 45 = .ok (.return_, 1) := by decide +kernel
theorem d_T_copyFrom_0 : decode b_T_copyFrom 0 = .ok (.aload_n 1, 1) := by decide +kernel
theorem d_T_copyFrom_1 : decode b_T_copyFrom 1 = .ok (.getfield 9, 3) := by decide +kernel
theorem d_T_copyFrom_4 : decode b_T_copyFrom 4 = .ok (.iconst 0, 1) := by decide +kernel
theorem d_T_copyFrom_5 : decode b_T_copyFrom 5 = .ok (.aload_n 0, 1) := by decide +kernel
theorem d_T_copyFrom_6 : decode b_T_copyFrom 6 = .ok (.getfield 9, 3) := by decide +kernel
theorem d_T_copyFrom_9 : decode b_T_copyFrom 9 = .ok (.iconst 0, 1) := by decide +kernel
theorem d_T_copyFrom_10 : decode b_T_copyFrom 10 = .ok (.aload_n 1, 1) := by decide +kernel
theorem d_T_copyFrom_11 : decode b_T_copyFrom 11 = .ok (.getfield 18, 3) := by decide +kernel
theorem d_T_copyFrom_14 : decode b_T_copyFrom 14 = .ok (.invokestatic 26, 3) := by decide +kernel
theorem d_T_copyFrom_17 : decode b_T_copyFrom 17 = .ok (.aload_n 1, 1) := by decide +kernel
theorem d_T_copyFrom_18 : decode b_T_copyFrom 18 = .ok (.getfield 15, 3) := by decide +kernel
theorem d_T_copyFrom_21 : decode b_T_copyFrom 21 = .ok (.iconst 0, 1) := by decide +kernel
theorem d_T_copyFrom_22 : decode b_T_copyFrom 22 = .ok (.aload_n 0, 1) := by decide +kernel
theorem d_T_copyFrom_23 : decode b_T_copyFrom 23 = .ok (.getfield 15, 3) := by decide +kernel
theorem d_T_copyFrom_26 : decode b_T_copyFrom 26 = .ok (.iconst 0, 1) := by decide +kernel
theorem d_T_copyFrom_27 : decode b_T_copyFrom 27 = .ok (.aload_n 1, 1) := by decide +kernel
theorem d_T_copyFrom_28 : decode b_T_copyFrom 28 = .ok (.getfield 18, 3) := by decide +kernel
theorem d_T_copyFrom_31 : decode b_T_copyFrom 31 = .ok (.invokestatic 26, 3) := by decide +kernel
theorem d_T_copyFrom_34 : decode b_T_copyFrom 34 = .ok (.aload_n 0, 1) := by decide +kernel
theorem d_T_copyFrom_35 : decode b_T_copyFrom 35 = .ok (.aload_n 1, 1) := by decide +kernel
theorem d_T_copyFrom_36 : decode b_T_copyFrom 36 = .ok (.getfield 18, 3) := by decide +kernel
theorem d_T_copyFrom_39 : decode b_T_copyFrom 39 = .ok (.putfield 18, 3) := by decide +kernel
theorem d_T_copyFrom_42 : decode b_T_copyFrom 42 = .ok (.aload_n 0, 1) := by decide +kernel
theorem d_T_copyFrom_43 : decode b_T_copyFrom 43 = .ok (.iconst 0, 1) := by decide +kernel
theorem d_T_copyFrom_44 : decode b_T_copyFrom 44 = .ok (.putfield 22, 3) := by decide +kernel
theorem d_T_copyFrom_47 : decode b_T_copyFrom 47 = .ok (.return_, 1) := by decide +kernel
theorem d_T_arrange_0 : decode b_T_arrange 0 = .ok (.iconst 1, 1) := by decide +kernel
theorem d_T_arrange_1 : decode b_T_arrange 1 = .ok (.istore_n 2, 1) := by decide +kernel
theorem d_T_arrange_2 : decode b_T_arrange 2 = .ok (.iload_n 2, 1) := by decide +kernel
theorem d_T_arrange_3 : decode b_T_arrange 3 = .ok (.aload_n 0, 1) := by decide +kernel
theorem d_T_arrange_4 : decode b_T_arrange 4 = .ok (.getfield 18, 3) := by decide +kernel
theorem d_T_arrange_7 : decode b_T_arrange 7 = .ok (.if_icmp .ge 115, 3) := by decide +kernel
theorem d_T_arrange_10 : decode b_T_arrange 10 = .ok (.aload_n 0, 1) := by decide +kernel
theorem d_T_arrange_11 : decode b_T_arrange 11 = .ok (.getfield 9, 3) := by decide +kernel
theorem d_T_arrange_14 : decode b_T_arrange 14 = .ok (.iload_n 2, 1) := by decide +kernel
theorem d_T_arrange_15 : decode b_T_arrange 15 = .ok (.iaload, 1) := by decide +kernel
theorem d_T_arrange_16 : decode b_T_arrange 16 = .ok (.istore_n 3, 1) := by decide +kernel
theorem d_T_arrange_17 : decode b_T_arrange 17 = .ok (.aload_n 0, 1) := by decide +kernel
theorem d_T_arrange_18 : decode b_T_arrange 18 = .ok (.getfield 15, 3) := by decide +kernel
theorem d_T_arrange_21 : decode b_T_arrange 21 = .ok (.iload_n 2, 1) := by decide +kernel
theorem d_T_arrange_22 : decode b_T_arrange 22 = .ok (.iaload, 1) := by decide +kernel
theorem d_T_arrange_23 : decode b_T_arrange 23 = .ok (.istore 4, 2) := by decide +kernel
theorem d_T_arrange_25 : decode b_T_arrange 25 = .ok (.iload_n 2, 1) := by decide +kernel
theorem d_T_arrange_26 : decode b_T_arrange 26 = .ok (.istore 5, 2) := by decide +kernel
theorem d_T_arrange_28 : decode b_T_arrange 28 = .ok (.iload 5, 2) := by decide +kernel
theorem d_T_arrange_30 : decode b_T_arrange 30 = .ok (.ifCond .le 69, 3) := by decide +kernel
theorem d_T_arrange_33 : decode b_T_arrange 33 = .ok (.iload_n 1, 1) := by decide +kernel
theorem d_T_arrange_34 : decode b_T_arrange 34 = .ok (.iload_n 3, 1) := by decide +kernel
theorem d_T_arrange_35 : decode b_T_arrange 35 = .ok (.iload 4, 2) := by decide +kernel
theorem d_T_arrange_37 : decode b_T_arrange 37 = .ok (.aload_n 0, 1) := by decide +kernel
theorem d_T_arrange_38 : decode b_T_arrange 38 = .ok (.getfield 9, 3) := by decide +kernel
theorem d_T_arrange_41 : decode b_T_arrange 41 = .ok (.iload 5, 2) := by decide +kernel
theorem d_T_arrange_43 : decode b_T_arrange 43 = .ok (.iconst 1, 1) := by decide +kernel
theorem d_T_arrange_44 : decode b_T_arrange 44 = .ok (.isub, 1) := by decide +kernel
theorem d_T_arrange_45 : decode b_T_arrange 45 = .ok (.iaload, 1) := by decide +kernel
theorem d_T_arrange_46 : decode b_T_arrange 46 = .ok (.aload_n 0, 1) := by decide +kernel
theorem d_T_arrange_47 : decode b_T_arrange 47 = .ok (.getfield 15, 3) := by decide +kernel
theorem d_T_arrange_50 : decode b_T_arrange 50 = .ok (.iload 5, 2) := by decide +kernel
theorem d_T_arrange_52 : decode b_T_arrange 52 = .ok (.iconst 1, 1) := by decide +kernel
theorem d_T_arrange_53 : decode b_T_arrange 53 = .ok (.isub, 1) := by decide +kernel
theorem d_T_arrange_54 : decode b_T_arrange 54 = .ok (.iaload, 1) := by decide +kernel
theorem d_T_arrange_55 : decode b_T_arrange 55 = .ok (.invokestatic 32, 3) := by decide +kernel
theorem d_T_arrange_58 : decode b_T_arrange 58 = .ok (.ifCond .ge 41, 3) := by decide +kernel
theorem d_T_arrange_61 : decode b_T_arrange 61 = .ok (.aload_n 0, 1) := by decide +kernel
theorem d_T_arrange_62 : decode b_T_arrange 62 = .ok (.getfield 9, 3) := by decide +kernel
theorem d_T_arrange_65 : decode b_T_arrange 65 = .ok (.iload 5, 2) := by decide +kernel
theorem d_T_arrange_67 : decode b_T_arrange 67 = .ok (.aload_n 0, 1) := by decide +kernel
theorem d_T_arrange_68 : decode b_T_arrange 68 = .ok (.getfield 9, 3) := by decide +kernel
theorem d_T_arrange_71 : decode b_T_arrange 71 = .ok (.iload 5, 2) := by decide +kernel
theorem d_T_arrange_73 : decode b_T_arrange 73 = .ok (.iconst 1, 1) := by decide +kernel
theorem d_T_arrange_74 : decode b_T_arrange 74 = .ok (.isub, 1) := by decide +kernel
theorem d_T_arrange_75 : decode b_T_arrange 75 = .ok (.iaload, 1) := by decide +kernel
theorem d_T_arrange_76 : decode b_T_arrange 76 = .ok (.iastore, 1) := by decide +kernel
theorem d_T_arrange_77 : decode b_T_arrange 77 = .ok (.aload_n 0, 1) := by decide +kernel
theorem d_T_arrange_78 : decode b_T_arrange 78 = .ok (.getfield 15, 3) := by decide +kernel
theorem d_T_arrange_81 : decode b_T_arrange 81 = .ok (.iload 5, 2) := by decide +kernel
theorem d_T_arrange_83 : decode b_T_arrange 83 = .ok (.aload_n 0, 1) := by decide +kernel
theorem d_T_arrange_84 : decode b_T_arrange 84 = .ok (.getfield 15, 3) := by decide +kernel
theorem d_T_arrange_87 : decode b_T_arrange 87 = .ok (.iload 5, 2) := by decide +kernel
theorem d_T_arrange_89 : decode b_T_arrange 89 = .ok (.iconst 1, 1) := by decide +kernel
theorem d_T_arrange_90 : decode b_T_arrange 90 = .ok (.isub, 1) := by decide +kernel
theorem d_T_arrange_91 : decode b_T_arrange 91 = .ok (.iaload, 1) := by decide +kernel
theorem d_T_arrange_92 : decode b_T_arrange 92 = .ok (.iastore, 1) := by decide +kernel
theorem d_T_arrange_93 : decode b_T_arrange 93 = .ok (.iinc 5 (-1), 3) := by decide +kernel
theorem d_T_arrange_96 : decode b_T_arrange 96 = .ok (.goto (-68), 3) := by decide +kernel
theorem d_T_arrange_99 : decode b_T_arrange 99 = .ok (.aload_n 0, 1) := by decide +kernel
theorem d_T_arrange_100 : decode b_T_arrange 100 = .ok (.getfield 9, 3) := by decide +kernel
theorem d_T_arrange_103 : decode b_T_arrange 103 = .ok (.iload 5, 2) := by decide +kernel
theorem d_T_arrange_105 : decode b_T_arrange 105 = .ok (.iload_n 3, 1) := by decide +kernel
theorem d_T_arrange_106 : decode b_T_arrange 106 = .ok (.iastore, 1) := by decide +kernel
theorem d_T_arrange_107 : decode b_T_arrange 107 = .ok (.aload_n 0, 1) := by decide +kernel
theorem d_T_arrange_108 : decode b_T_arrange 108 = .ok (.getfield 15, 3) := by decide +kernel
theorem d_T_arrange_111 : decode b_T_arrange 111 = .ok (.iload 5, 2) := by decide +kernel
theorem d_T_arrange_113 : decode b_T_arrange 113 = .ok (.iload 4, 2) := by decide +kernel
theorem d_T_arrange_115 : decode b_T_arrange 115 = .ok (.iastore, 1) := by decide +kernel
theorem d_T_arrange_116 : decode b_T_arrange 116 = .ok (.iinc 2 1, 3) := by decide +kernel
theorem d_T_arrange_119 : decode b_T_arrange 119 = .ok (.goto (-117), 3) := by decide +kernel
theorem d_T_arrange_122 : decode b_T_arrange 122 = .ok (.return_, 1) := by decide +kernel
theorem d_T_dropRepeats_0 : decode b_T_dropRepeats 0 = .ok (.iconst 0, 1) := by decide +kernel
theorem d_T_dropRepeats_1 : decode b_T_dropRepeats 1 = .ok (.istore_n 1, 1) := by decide +kernel
theorem d_T_dropRepeats_2 : decode b_T_dropRepeats 2 = .ok (.iconst 0, 1) := by decide +kernel
theorem d_T_dropRepeats_3 : decode b_T_dropRepeats 3 = .ok (.istore_n 2, 1) := by decide +kernel
theorem d_T_dropRepeats_4 : decode b_T_dropRepeats 4 = .ok (.iload_n 2, 1) := by decide +kernel
theorem d_T_dropRepeats_5 : decode b_T_dropRepeats 5 = .ok (.aload_n 0, 1) := by decide +kernel
theorem d_T_dropRepeats_6 : decode b_T_dropRepeats 6 = .ok (.getfield 18, 3) := by decide +kernel
theorem d_T_dropRepeats_9 : decode b_T_dropRepeats 9 = .ok (.if_icmp .ge 74, 3) := by decide +kernel
theorem d_T_dropRepeats_12 : decode b_T_dropRepeats 12 = .ok (.iload_n 1, 1) := by decide +kernel
theorem d_T_dropRepeats_13 : decode b_T_dropRepeats 13 = .ok (.ifCond .eq 37, 3) := by decide +kernel
theorem d_T_dropRepeats_16 : decode b_T_dropRepeats 16 = .ok (.aload_n 0, 1) := by decide +kernel
theorem d_T_dropRepeats_17 : decode b_T_dropRepeats 17 = .ok (.getfield 9, 3) := by decide +kernel
theorem d_T_dropRepeats_20 : decode b_T_dropRepeats 20 = .ok (.iload_n 2, 1) := by decide +kernel
theorem d_T_dropRepeats_21 : decode b_T_dropRepeats 21 = .ok (.iaload, 1) := by decide +kernel
theorem d_T_dropRepeats_22 : decode b_T_dropRepeats 22 = .ok (.aload_n 0, 1) := by decide +kernel
theorem d_T_dropRepeats_23 : decode b_T_dropRepeats 23 = .ok (.getfield 9, 3) := by decide +kernel
theorem d_T_dropRepeats_26 : decode b_T_dropRepeats 26 = .ok (.iload_n 1, 1) := by decide +kernel
theorem d_T_dropRepeats_27 : decode b_T_dropRepeats 27 = .ok (.iconst 1, 1) := by decide +kernel
theorem d_T_dropRepeats_28 : decode b_T_dropRepeats 28 = .ok (.isub, 1) := by decide +kernel
theorem d_T_dropRepeats_29 : decode b_T_dropRepeats 29 = .ok (.iaload, 1) := by decide +kernel
theorem d_T_dropRepeats_30 : decode b_T_dropRepeats 30 = .ok (.if_icmp .ne 20, 3) := by decide +kernel
theorem d_T_dropRepeats_33 : decode b_T_dropRepeats 33 = .ok (.aload_n 0, 1) := by decide +kernel
theorem d_T_dropRepeats_34 : decode b_T_dropRepeats 34 = .ok (.getfield 15, 3) := by decide +kernel
theorem d_T_dropRepeats_37 : decode b_T_dropRepeats 37 = .ok (.iload_n 2, 1) := by decide +kernel
theorem d_T_dropRepeats_38 : decode b_T_dropRepeats 38 = .ok (.iaload, 1) := by decide +kernel
theorem d_T_dropRepeats_39 : decode b_T_dropRepeats 39 = .ok (.aload_n 0, 1) := by decide +kernel
theorem d_T_dropRepeats_40 : decode b_T_dropRepeats 40 = .ok (.getfield 15, 3) := by decide +kernel
theorem d_T_dropRepeats_43 : decode b_T_dropRepeats 43 = .ok (.iload_n 1, 1) := by decide +kernel
theorem d_T_dropRepeats_44 : decode b_T_dropRepeats 44 = .ok (.iconst 1, 1) := by decide +kernel
theorem d_T_dropRepeats_45 : decode b_T_dropRepeats 45 = .ok (.isub, 1) := by decide +kernel
theorem d_T_dropRepeats_46 : decode b_T_dropRepeats 46 = .ok (.iaload, 1) := by decide +kernel
theorem d_T_dropRepeats_47 : decode b_T_dropRepeats 47 = .ok (.if_icmp .eq 30, 3) := by decide +kernel
theorem d_T_dropRepeats_50 : decode b_T_dropRepeats 50 = .ok (.aload_n 0, 1) := by decide +kernel
theorem d_T_dropRepeats_51 : decode b_T_dropRepeats 51 = .ok (.getfield 9, 3) := by decide +kernel
theorem d_T_dropRepeats_54 : decode b_T_dropRepeats 54 = .ok (.iload_n 1, 1) := by decide +kernel
theorem d_T_dropRepeats_55 : decode b_T_dropRepeats 55 = .ok (.aload_n 0, 1) := by decide +kernel
theorem d_T_dropRepeats_56 : decode b_T_dropRepeats 56 = .ok (.getfield 9, 3) := by decide +kernel
theorem d_T_dropRepeats_59 : decode b_T_dropRepeats 59 = .ok (.iload_n 2, 1) := by decide +kernel
theorem d_T_dropRepeats_60 : decode b_T_dropRepeats 60 = .ok (.iaload, 1) := by decide +kernel
theorem d_T_dropRepeats_61 : decode b_T_dropRepeats 61 = .ok (.iastore, 1) := by decide +kernel
theorem d_T_dropRepeats_62 : decode b_T_dropRepeats 62 = .ok (.aload_n 0, 1) := by decide +kernel
theorem d_T_dropRepeats_63 : decode b_T_dropRepeats 63 = .ok (.getfield 15, 3) := by decide +kernel
theorem d_T_dropRepeats_66 : decode b_T_dropRepeats 66 = .ok (.iload_n 1, 1) := by decide +kernel
theorem d_T_dropRepeats_67 : decode b_T_dropRepeats 67 = .ok (.aload_n 0, 1) := by decide +kernel
theorem d_T_dropRepeats_68 : decode b_T_dropRepeats 68 = .ok (.getfield 15, 3) := by decide +kernel
theorem d_T_dropRepeats_71 : decode b_T_dropRepeats 71 = .ok (.iload_n 2, 1) := by decide +kernel
theorem d_T_dropRepeats_72 : decode b_T_dropRepeats 72 = .ok (.iaload, 1) := by decide +kernel
theorem d_T_dropRepeats_73 : decode b_T_dropRepeats 73 = .ok (.iastore, 1) := by decide +kernel
theorem d_T_dropRepeats_74 : decode b_T_dropRepeats 74 = .ok (.iinc 1 1, 3) := by decide +kernel
theorem d_T_dropRepeats_77 : decode b_T_dropRepeats 77 = .ok (.iinc 2 1, 3) := by decide +kernel
theorem d_T_dropRepeats_80 : decode b_T_dropRepeats 80 = .ok (.goto (-76), 3) := by decide +kernel
theorem d_T_dropRepeats_83 : decode b_T_dropRepeats 83 = .ok (.aload_n 0, 1) := by decide +kernel
theorem d_T_dropRepeats_84 : decode b_T_dropRepeats 84 = .ok (.iload_n 1, 1) := by decide +kernel
theorem d_T_dropRepeats_85 : decode b_T_dropRepeats 85 = .ok (.putfield 18, 3) := by decide +kernel
theorem d_T_dropRepeats_88 : decode b_T_dropRepeats 88 = .ok (.return_, 1) := by decide +kernel
theorem d_T_placeOfKey_0 : decode b_T_placeOfKey 0 = .ok (.iload_n 2, 1) := by decide +kernel
theorem d_T_placeOfKey_1 : decode b_T_placeOfKey 1 = .ok (.istore_n 3, 1) := by decide +kernel
theorem d_T_placeOfKey_2 : decode b_T_placeOfKey 2 = .ok (.iload_n 3, 1) := by decide +kernel
theorem d_T_placeOfKey_3 : decode b_T_placeOfKey 3 = .ok (.aload_n 0, 1) := by decide +kernel
theorem d_T_placeOfKey_4 : decode b_T_placeOfKey 4 = .ok (.getfield 18, 3) := by decide +kernel
theorem d_T_placeOfKey_7 : decode b_T_placeOfKey 7 = .ok (.if_icmp .ge 19, 3) := by decide +kernel
theorem d_T_placeOfKey_10 : decode b_T_placeOfKey 10 = .ok (.aload_n 0, 1) := by decide +kernel
theorem d_T_placeOfKey_11 : decode b_T_placeOfKey 11 = .ok (.getfield 9, 3) := by decide +kernel
theorem d_T_placeOfKey_14 : decode b_T_placeOfKey 14 = .ok (.iload_n 3, 1) := by decide +kernel
theorem d_T_placeOfKey_15 : decode b_T_placeOfKey 15 = .ok (.iaload, 1) := by decide +kernel
theorem d_T_placeOfKey_16 : decode b_T_placeOfKey 16 = .ok (.iload_n 1, 1) := by decide +kernel
theorem d_T_placeOfKey_17 : decode b_T_placeOfKey 17 = .ok (.if_icmp .eq 9, 3) := by decide +kernel
theorem d_T_placeOfKey_20 : decode b_T_placeOfKey 20 = .ok (.iinc 3 1, 3) := by decide +kernel
theorem d_T_placeOfKey_23 : decode b_T_placeOfKey 23 = .ok (.goto (-21), 3) := by decide +kernel
theorem d_T_placeOfKey_26 : decode b_T_placeOfKey 26 = .ok (.iload_n 3, 1) := by decide +kernel
theorem d_T_placeOfKey_27 : decode b_T_placeOfKey 27 = .ok (.ireturn, 1) := by decide +kernel
theorem d_T_repeatsFrom_0 : decode b_T_repeatsFrom 0 = .ok (.iload_n 1, 1) := by decide +kernel
theorem d_T_repeatsFrom_1 : decode b_T_repeatsFrom 1 = .ok (.istore 4, 2) := by decide +kernel
theorem d_T_repeatsFrom_3 : decode b_T_repeatsFrom 3 = .ok (.iload 4, 2) := by decide +kernel
theorem d_T_repeatsFrom_5 : decode b_T_repeatsFrom 5 = .ok (.aload_n 0, 1) := by decide +kernel
theorem d_T_repeatsFrom_6 : decode b_T_repeatsFrom 6 = .ok (.getfield 18, 3) := by decide +kernel
theorem d_T_repeatsFrom_9 : decode b_T_repeatsFrom 9 = .ok (.if_icmp .ge 31, 3) := by decide +kernel
theorem d_T_repeatsFrom_12 : decode b_T_repeatsFrom 12 = .ok (.aload_n 0, 1) := by decide +kernel
theorem d_T_repeatsFrom_13 : decode b_T_repeatsFrom 13 = .ok (.getfield 9, 3) := by decide +kernel
theorem d_T_repeatsFrom_16 : decode b_T_repeatsFrom 16 = .ok (.iload 4, 2) := by decide +kernel
theorem d_T_repeatsFrom_18 : decode b_T_repeatsFrom 18 = .ok (.iaload, 1) := by decide +kernel
theorem d_T_repeatsFrom_19 : decode b_T_repeatsFrom 19 = .ok (.iload_n 2, 1) := by decide +kernel
theorem d_T_repeatsFrom_20 : decode b_T_repeatsFrom 20 = .ok (.if_icmp .ne 20, 3) := by decide +kernel
theorem d_T_repeatsFrom_23 : decode b_T_repeatsFrom 23 = .ok (.aload_n 0, 1) := by decide +kernel
theorem d_T_repeatsFrom_24 : decode b_T_repeatsFrom 24 = .ok (.getfield 15, 3) := by decide +kernel
theorem d_T_repeatsFrom_27 : decode b_T_repeatsFrom 27 = .ok (.iload 4, 2) := by decide +kernel
theorem d_T_repeatsFrom_29 : decode b_T_repeatsFrom 29 = .ok (.iaload, 1) := by decide +kernel
theorem d_T_repeatsFrom_30 : decode b_T_repeatsFrom 30 = .ok (.iload_n 3, 1) := by decide +kernel
theorem d_T_repeatsFrom_31 : decode b_T_repeatsFrom 31 = .ok (.if_icmp .ne 9, 3) := by decide +kernel
theorem d_T_repeatsFrom_34 : decode b_T_repeatsFrom 34 = .ok (.iinc 4 1, 3) := by decide +kernel
theorem d_T_repeatsFrom_37 : decode b_T_repeatsFrom 37 = .ok (.goto (-34), 3) := by decide +kernel
theorem d_T_repeatsFrom_40 : decode b_T_repeatsFrom 40 = .ok (.iload 4, 2) := by decide +kernel
theorem d_T_repeatsFrom_42 : decode b_T_repeatsFrom 42 = .ok (.iload_n 1, 1) := by decide +kernel
theorem d_T_repeatsFrom_43 : decode b_T_repeatsFrom 43 = .ok (.isub, 1) := by decide +kernel
theorem d_T_repeatsFrom_44 : decode b_T_repeatsFrom 44 = .ok (.ireturn, 1) := by decide +kernel
theorem d_I_compare_0 : decode b_I_compare 0 = .ok (.iload_n 0, 1) := by decide +kernel
theorem d_I_compare_1 : decode b_I_compare 1 = .ok (.iload_n 1, 1) := by decide +kernel
theorem d_I_compare_2 : decode b_I_compare 2 = .ok (.if_icmp .ge 7, 3) := by decide +kernel
theorem d_I_compare_5 : decode b_I_compare 5 = .ok (.iconst (-1), 1) := by decide +kernel
theorem d_I_compare_6 : decode b_I_compare 6 = .ok (.goto 13, 3) := by decide +kernel
theorem d_I_compare_9 : decode b_I_compare 9 = .ok (.iload_n 0, 1) := by decide +kernel
theorem d_I_compare_10 : decode b_I_compare 10 = .ok (.iload_n 1, 1) := by decide +kernel
theorem d_I_compare_11 : decode b_I_compare 11 = .ok (.if_icmp .ne 7, 3) := by decide +kernel
theorem d_I_compare_14 : decode b_I_compare 14 = .ok (.iconst 0, 1) := by decide +kernel
theorem d_I_compare_15 : decode b_I_compare 15 = .ok (.goto 4, 3) := by decide +kernel
theorem d_I_compare_18 : decode b_I_compare 18 = .ok (.iconst 1, 1) := by decide +kernel
theorem d_I_compare_19 : decode b_I_compare 19 = .ok (.ireturn, 1) := by decide +kernel
theorem d_J_floorMod_0 : decode b_J_floorMod 0 = .ok (.iload_n 0, 1) := by decide +kernel
theorem d_J_floorMod_1 : decode b_J_floorMod 1 = .ok (.iload_n 1, 1) := by decide +kernel
theorem d_J_floorMod_2 : decode b_J_floorMod 2 = .ok (.irem, 1) := by decide +kernel
theorem d_J_floorMod_3 : decode b_J_floorMod 3 = .ok (.istore_n 2, 1) := by decide +kernel
theorem d_J_floorMod_4 : decode b_J_floorMod 4 = .ok (.iload_n 0, 1) := by decide +kernel
theorem d_J_floorMod_5 : decode b_J_floorMod 5 = .ok (.iload_n 1, 1) := by decide +kernel
theorem d_J_floorMod_6 : decode b_J_floorMod 6 = .ok (.ixor, 1) := by decide +kernel
theorem d_J_floorMod_7 : decode b_J_floorMod 7 = .ok (.ifCond .ge 11, 3) := by decide +kernel
theorem d_J_floorMod_10 : decode b_J_floorMod 10 = .ok (.iload_n 2, 1) := by decide +kernel
theorem d_J_floorMod_11 : decode b_J_floorMod 11 = .ok (.ifCond .eq 7, 3) := by decide +kernel
theorem d_J_floorMod_14 : decode b_J_floorMod 14 = .ok (.iload_n 2, 1) := by decide +kernel
theorem d_J_floorMod_15 : decode b_J_floorMod 15 = .ok (.iload_n 1, 1) := by decide +kernel
theorem d_J_floorMod_16 : decode b_J_floorMod 16 = .ok (.iadd, 1) := by decide +kernel
theorem d_J_floorMod_17 : decode b_J_floorMod 17 = .ok (.ireturn, 1) := by decide +kernel
theorem d_J_floorMod_18 : decode b_J_floorMod 18 = .ok (.iload_n 2, 1) := by decide +kernel
theorem d_J_floorMod_19 : decode b_J_floorMod 19 = .ok (.ireturn, 1) := by decide +kernel
theorem d_J_max_0 : decode b_J_max 0 = .ok (.iload_n 0, 1) := by decide +kernel
theorem d_J_max_1 : decode b_J_max 1 = .ok (.iload_n 1, 1) := by decide +kernel
theorem d_J_max_2 : decode b_J_max 2 = .ok (.if_icmp .lt 7, 3) := by decide +kernel
theorem d_J_max_5 : decode b_J_max 5 = .ok (.iload_n 0, 1) := by decide +kernel
theorem d_J_max_6 : decode b_J_max 6 = .ok (.goto 4, 3) := by decide +kernel
theorem d_J_max_9 : decode b_J_max 9 = .ok (.iload_n 1, 1) := by decide +kernel
theorem d_J_max_10 : decode b_J_max 10 = .ok (.ireturn, 1) := by decide +kernel
theorem d_J_min_0 : decode b_J_min 0 = .ok (.iload_n 0, 1) := by decide +kernel
theorem d_J_min_1 : decode b_J_min 1 = .ok (.iload_n 1, 1) := by decide +kernel
theorem d_J_min_2 : decode b_J_min 2 = .ok (.if_icmp .gt 7, 3) := by decide +kernel
theorem d_J_min_5 : decode b_J_min 5 = .ok (.iload_n 0, 1) := by decide +kernel
theorem d_J_min_6 : decode b_J_min 6 = .ok (.goto 4, 3) := by decide +kernel
theorem d_J_min_9 : decode b_J_min 9 = .ok (.iload_n 1, 1) := by decide +kernel
theorem d_J_min_10 : decode b_J_min 10 = .ok (.ireturn, 1) := by decide +kernel
