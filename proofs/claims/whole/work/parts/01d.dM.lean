theorem d_M_init_0 : decode b_M_init 0 = .ok (.aload_n 0, 1) := by decide +kernel
theorem d_M_init_1 : decode b_M_init 1 = .ok (.invokespecial 1, 3) := by decide +kernel
theorem d_M_init_4 : decode b_M_init 4 = .ok (.aload_n 0, 1) := by decide +kernel
theorem d_M_init_5 : decode b_M_init 5 = .ok (.bipush 60, 2) := by decide +kernel
theorem d_M_init_7 : decode b_M_init 7 = .ok (.newarray .int, 2) := by decide +kernel
theorem d_M_init_9 : decode b_M_init 9 = .ok (.putfield 7, 3) := by decide +kernel
theorem d_M_init_12 : decode b_M_init 12 = .ok (.aload_n 0, 1) := by decide +kernel
theorem d_M_init_13 : decode b_M_init 13 = .ok (.bipush 60, 2) := by decide +kernel
theorem d_M_init_15 : decode b_M_init 15 = .ok (.newarray .int, 2) := by decide +kernel
theorem d_M_init_17 : decode b_M_init 17 = .ok (.putfield 13, 3) := by decide +kernel
theorem d_M_init_20 : decode b_M_init 20 = .ok (.aload_n 0, 1) := by decide +kernel
theorem d_M_init_21 : decode b_M_init 21 = .ok (.bipush 8, 2) := by decide +kernel
theorem d_M_init_23 : decode b_M_init 23 = .ok (.newarray .int, 2) := by decide +kernel
theorem d_M_init_25 : decode b_M_init 25 = .ok (.putfield 16, 3) := by decide +kernel
theorem d_M_init_28 : decode b_M_init 28 = .ok (.aload_n 0, 1) := by decide +kernel
theorem d_M_init_29 : decode b_M_init 29 = .ok (.sipush 480, 3) := by decide +kernel
theorem d_M_init_32 : decode b_M_init 32 = .ok (.newarray .int, 2) := by decide +kernel
theorem d_M_init_34 : decode b_M_init 34 = .ok (.putfield 19, 3) := by decide +kernel
theorem d_M_init_37 : decode b_M_init 37 = .ok (.aload_n 0, 1) := by decide +kernel
theorem d_M_init_38 : decode b_M_init 38 = .ok (.sipush 480, 3) := by decide +kernel
theorem d_M_init_41 : decode b_M_init 41 = .ok (.newarray .int, 2) := by decide +kernel
theorem d_M_init_43 : decode b_M_init 43 = .ok (.putfield 22, 3) := by decide +kernel
theorem d_M_init_46 : decode b_M_init 46 = .ok (.aload_n 0, 1) := by decide +kernel
theorem d_M_init_47 : decode b_M_init 47 = .ok (.bipush 60, 2) := by decide +kernel
theorem d_M_init_49 : decode b_M_init 49 = .ok (.newarray .int, 2) := by decide +kernel
theorem d_M_init_51 : decode b_M_init 51 = .ok (.putfield 25, 3) := by decide +kernel
theorem d_M_init_54 : decode b_M_init 54 = .ok (.aload_n 0, 1) := by decide +kernel
theorem d_M_init_55 : decode b_M_init 55 = .ok (.bipush 60, 2) := by decide +kernel
theorem d_M_init_57 : decode b_M_init 57 = .ok (.newarray .int, 2) := by decide +kernel
theorem d_M_init_59 : decode b_M_init 59 = .ok (.putfield 28, 3) := by decide +kernel
theorem d_M_init_62 : decode b_M_init 62 = .ok (.aload_n 0, 1) := by decide +kernel
theorem d_M_init_63 : decode b_M_init 63 = .ok (.iconst 3, 1) := by decide +kernel
theorem d_M_init_64 : decode b_M_init 64 = .ok (.newarray .int, 2) := by decide +kernel
theorem d_M_init_66 : decode b_M_init 66 = .ok (.putfield 31, 3) := by decide +kernel
theorem d_M_init_69 : decode b_M_init 69 = .ok (.aload_n 0, 1) := by decide +kernel
theorem d_M_init_70 : decode b_M_init 70 = .ok (.iload_n 1, 1) := by decide +kernel
theorem d_M_init_71 : decode b_M_init 71 = .ok (.iconst 3, 1) := by decide +kernel
theorem d_M_init_72 : decode b_M_init 72 = .ok (.if_icmp .ge 7, 3) := by decide +kernel
theorem d_M_init_75 : decode b_M_init 75 = .ok (.iconst 3, 1) := by decide +kernel
theorem d_M_init_76 : decode b_M_init 76 = .ok (.goto 15, 3) := by decide +kernel
theorem d_M_init_79 : decode b_M_init 79 = .ok (.iload_n 1, 1) := by decide +kernel
theorem d_M_init_80 : decode b_M_init 80 = .ok (.bipush 6, 2) := by decide +kernel
theorem d_M_init_82 : decode b_M_init 82 = .ok (.if_icmp .le 8, 3) := by decide +kernel
theorem d_M_init_85 : decode b_M_init 85 = .ok (.bipush 6, 2) := by decide +kernel
theorem d_M_init_87 : decode b_M_init 87 = .ok (.goto 4, 3) := by decide +kernel
theorem d_M_init_90 : decode b_M_init 90 = .ok (.iload_n 1, 1) := by decide +kernel
theorem d_M_init_91 : decode b_M_init 91 = .ok (.putfield 34, 3) := by decide +kernel
theorem d_M_init_94 : decode b_M_init 94 = .ok (.iconst 0, 1) := by decide +kernel
theorem d_M_init_95 : decode b_M_init 95 = .ok (.istore_n 2, 1) := by decide +kernel
theorem d_M_init_96 : decode b_M_init 96 = .ok (.iload_n 2, 1) := by decide +kernel
theorem d_M_init_97 : decode b_M_init 97 = .ok (.bipush 8, 2) := by decide +kernel
theorem d_M_init_99 : decode b_M_init 99 = .ok (.if_icmp .ge 16, 3) := by decide +kernel
theorem d_M_init_102 : decode b_M_init 102 = .ok (.aload_n 0, 1) := by decide +kernel
theorem d_M_init_103 : decode b_M_init 103 = .ok (.getfield 16, 3) := by decide +kernel
theorem d_M_init_106 : decode b_M_init 106 = .ok (.iload_n 2, 1) := by decide +kernel
theorem d_M_init_107 : decode b_M_init 107 = .ok (.iconst (-1), 1) := by decide +kernel
theorem d_M_init_108 : decode b_M_init 108 = .ok (.iastore, 1) := by decide +kernel
theorem d_M_init_109 : decode b_M_init 109 = .ok (.iinc 2 1, 3) := by decide +kernel
theorem d_M_init_112 : decode b_M_init 112 = .ok (.goto (-16), 3) := by decide +kernel
theorem d_M_init_115 : decode b_M_init 115 = .ok (.return_, 1) := by decide +kernel
theorem d_M_size_0 : decode b_M_size 0 = .ok (.iload_n 0, 1) := by decide +kernel
theorem d_M_size_1 : decode b_M_size 1 = .ok (.iconst 3, 1) := by decide +kernel
theorem d_M_size_2 : decode b_M_size 2 = .ok (.iadd, 1) := by decide +kernel
theorem d_M_size_3 : decode b_M_size 3 = .ok (.iconst 4, 1) := by decide +kernel
theorem d_M_size_4 : decode b_M_size 4 = .ok (.idiv, 1) := by decide +kernel
theorem d_M_size_5 : decode b_M_size 5 = .ok (.ireturn, 1) := by decide +kernel
theorem d_M_slot_0 : decode b_M_slot 0 = .ok (.iload_n 0, 1) := by decide +kernel
theorem d_M_slot_1 : decode b_M_slot 1 = .ok (.ifCond .lt 13, 3) := by decide +kernel
theorem d_M_slot_4 : decode b_M_slot 4 = .ok (.iload_n 0, 1) := by decide +kernel
theorem d_M_slot_5 : decode b_M_slot 5 = .ok (.bipush 8, 2) := by decide +kernel
theorem d_M_slot_7 : decode b_M_slot 7 = .ok (.if_icmp .ge 7, 3) := by decide +kernel
theorem d_M_slot_10 : decode b_M_slot 10 = .ok (.iconst 1, 1) := by decide +kernel
theorem d_M_slot_11 : decode b_M_slot 11 = .ok (.goto 4, 3) := by decide +kernel
theorem d_M_slot_14 : decode b_M_slot 14 = .ok (.iconst 0, 1) := by decide +kernel
theorem d_M_slot_15 : decode b_M_slot 15 = .ok (.ireturn, 1) := by decide +kernel
theorem d_M_sortCost_0 : decode b_M_sortCost 0 = .ok (.iload_n 1, 1) := by decide +kernel
theorem d_M_sortCost_1 : decode b_M_sortCost 1 = .ok (.invokestatic 38, 3) := by decide +kernel
theorem d_M_sortCost_4 : decode b_M_sortCost 4 = .ok (.istore_n 2, 1) := by decide +kernel
theorem d_M_sortCost_5 : decode b_M_sortCost 5 = .ok (.iload_n 2, 1) := by decide +kernel
theorem d_M_sortCost_6 : decode b_M_sortCost 6 = .ok (.ifCond .ne 5, 3) := by decide +kernel
theorem d_M_sortCost_9 : decode b_M_sortCost 9 = .ok (.lconst 0, 1) := by decide +kernel
theorem d_M_sortCost_10 : decode b_M_sortCost 10 = .ok (.lreturn, 1) := by decide +kernel
theorem d_M_sortCost_11 : decode b_M_sortCost 11 = .ok (.iload_n 2, 1) := by decide +kernel
theorem d_M_sortCost_12 : decode b_M_sortCost 12 = .ok (.aload_n 0, 1) := by decide +kernel
theorem d_M_sortCost_13 : decode b_M_sortCost 13 = .ok (.getfield 34, 3) := by decide +kernel
theorem d_M_sortCost_16 : decode b_M_sortCost 16 = .ok (.iadd, 1) := by decide +kernel
theorem d_M_sortCost_17 : decode b_M_sortCost 17 = .ok (.iconst 1, 1) := by decide +kernel
theorem d_M_sortCost_18 : decode b_M_sortCost 18 = .ok (.isub, 1) := by decide +kernel
theorem d_M_sortCost_19 : decode b_M_sortCost 19 = .ok (.aload_n 0, 1) := by decide +kernel
theorem d_M_sortCost_20 : decode b_M_sortCost 20 = .ok (.getfield 34, 3) := by decide +kernel
theorem d_M_sortCost_23 : decode b_M_sortCost 23 = .ok (.idiv, 1) := by decide +kernel
theorem d_M_sortCost_24 : decode b_M_sortCost 24 = .ok (.istore_n 3, 1) := by decide +kernel
theorem d_M_sortCost_25 : decode b_M_sortCost 25 = .ok (.iconst 0, 1) := by decide +kernel
theorem d_M_sortCost_26 : decode b_M_sortCost 26 = .ok (.istore 4, 2) := by decide +kernel
theorem d_M_sortCost_28 : decode b_M_sortCost 28 = .ok (.iload_n 3, 1) := by decide +kernel
theorem d_M_sortCost_29 : decode b_M_sortCost 29 = .ok (.iconst 1, 1) := by decide +kernel
theorem d_M_sortCost_30 : decode b_M_sortCost 30 = .ok (.if_icmp .le 28, 3) := by decide +kernel
theorem d_M_sortCost_33 : decode b_M_sortCost 33 = .ok (.iload_n 3, 1) := by decide +kernel
theorem d_M_sortCost_34 : decode b_M_sortCost 34 = .ok (.aload_n 0, 1) := by decide +kernel
theorem d_M_sortCost_35 : decode b_M_sortCost 35 = .ok (.getfield 34, 3) := by decide +kernel
theorem d_M_sortCost_38 : decode b_M_sortCost 38 = .ok (.iadd, 1) := by decide +kernel
theorem d_M_sortCost_39 : decode b_M_sortCost 39 = .ok (.iconst 2, 1) := by decide +kernel
theorem d_M_sortCost_40 : decode b_M_sortCost 40 = .ok (.isub, 1) := by decide +kernel
theorem d_M_sortCost_41 : decode b_M_sortCost 41 = .ok (.aload_n 0, 1) := by decide +kernel
theorem d_M_sortCost_42 : decode b_M_sortCost 42 = .ok (.getfield 34, 3) := by decide +kernel
theorem d_M_sortCost_45 : decode b_M_sortCost 45 = .ok (.iconst 1, 1) := by decide +kernel
theorem d_M_sortCost_46 : decode b_M_sortCost 46 = .ok (.isub, 1) := by decide +kernel
theorem d_M_sortCost_47 : decode b_M_sortCost 47 = .ok (.idiv, 1) := by decide +kernel
theorem d_M_sortCost_48 : decode b_M_sortCost 48 = .ok (.istore_n 3, 1) := by decide +kernel
theorem d_M_sortCost_49 : decode b_M_sortCost 49 = .ok (.iload 4, 2) := by decide +kernel
theorem d_M_sortCost_51 : decode b_M_sortCost 51 = .ok (.iconst 1, 1) := by decide +kernel
theorem d_M_sortCost_52 : decode b_M_sortCost 52 = .ok (.iadd, 1) := by decide +kernel
theorem d_M_sortCost_53 : decode b_M_sortCost 53 = .ok (.istore 4, 2) := by decide +kernel
theorem d_M_sortCost_55 : decode b_M_sortCost 55 = .ok (.goto (-27), 3) := by decide +kernel
theorem d_M_sortCost_58 : decode b_M_sortCost 58 = .ok (.ldc2_w 42, 3) := by decide +kernel
theorem d_M_sortCost_61 : decode b_M_sortCost 61 = .ok (.iload_n 2, 1) := by decide +kernel
theorem d_M_sortCost_62 : decode b_M_sortCost 62 = .ok (.i2l, 1) := by decide +kernel
theorem d_M_sortCost_63 : decode b_M_sortCost 63 = .ok (.lmul, 1) := by decide +kernel
theorem d_M_sortCost_64 : decode b_M_sortCost 64 = .ok (.iconst 1, 1) := by decide +kernel
theorem d_M_sortCost_65 : decode b_M_sortCost 65 = .ok (.iload 4, 2) := by decide +kernel
theorem d_M_sortCost_67 : decode b_M_sortCost 67 = .ok (.iadd, 1) := by decide +kernel
theorem d_M_sortCost_68 : decode b_M_sortCost 68 = .ok (.i2l, 1) := by decide +kernel
theorem d_M_sortCost_69 : decode b_M_sortCost 69 = .ok (.lmul, 1) := by decide +kernel
theorem d_M_sortCost_70 : decode b_M_sortCost 70 = .ok (.lreturn, 1) := by decide +kernel
theorem d_M_put_0 : decode b_M_put 0 = .ok (.aload_n 0, 1) := by decide +kernel
theorem d_M_put_1 : decode b_M_put 1 = .ok (.getfield 44, 3) := by decide +kernel
theorem d_M_put_4 : decode b_M_put 4 = .ok (.bipush 60, 2) := by decide +kernel
theorem d_M_put_6 : decode b_M_put 6 = .ok (.if_icmp .ne 5, 3) := by decide +kernel
theorem d_M_put_9 : decode b_M_put 9 = .ok (.iconst 0, 1) := by decide +kernel
theorem d_M_put_10 : decode b_M_put 10 = .ok (.ireturn, 1) := by decide +kernel
theorem d_M_put_11 : decode b_M_put 11 = .ok (.aload_n 0, 1) := by decide +kernel
theorem d_M_put_12 : decode b_M_put 12 = .ok (.getfield 7, 3) := by decide +kernel
theorem d_M_put_15 : decode b_M_put 15 = .ok (.aload_n 0, 1) := by decide +kernel
theorem d_M_put_16 : decode b_M_put 16 = .ok (.getfield 44, 3) := by decide +kernel
theorem d_M_put_19 : decode b_M_put 19 = .ok (.iload_n 1, 1) := by decide +kernel
theorem d_M_put_20 : decode b_M_put 20 = .ok (.iastore, 1) := by decide +kernel
theorem d_M_put_21 : decode b_M_put 21 = .ok (.aload_n 0, 1) := by decide +kernel
theorem d_M_put_22 : decode b_M_put 22 = .ok (.getfield 13, 3) := by decide +kernel
theorem d_M_put_25 : decode b_M_put 25 = .ok (.aload_n 0, 1) := by decide +kernel
theorem d_M_put_26 : decode b_M_put 26 = .ok (.getfield 44, 3) := by decide +kernel
theorem d_M_put_29 : decode b_M_put 29 = .ok (.iload_n 2, 1) := by decide +kernel
theorem d_M_put_30 : decode b_M_put 30 = .ok (.iastore, 1) := by decide +kernel
theorem d_M_put_31 : decode b_M_put 31 = .ok (.aload_n 0, 1) := by decide +kernel
theorem d_M_put_32 : decode b_M_put 32 = .ok (.dup, 1) := by decide +kernel
theorem d_M_put_33 : decode b_M_put 33 = .ok (.getfield 44, 3) := by decide +kernel
theorem d_M_put_36 : decode b_M_put 36 = .ok (.iconst 1, 1) := by decide +kernel
theorem d_M_put_37 : decode b_M_put 37 = .ok (.iadd, 1) := by decide +kernel
theorem d_M_put_38 : decode b_M_put 38 = .ok (.putfield 44, 3) := by decide +kernel
theorem d_M_put_41 : decode b_M_put 41 = .ok (.iconst 1, 1) := by decide +kernel
theorem d_M_put_42 : decode b_M_put 42 = .ok (.ireturn, 1) := by decide +kernel
theorem d_M_store_0 : decode b_M_store 0 = .ok (.iload_n 1, 1) := by decide +kernel
theorem d_M_store_1 : decode b_M_store 1 = .ok (.invokestatic 47, 3) := by decide +kernel
theorem d_M_store_4 : decode b_M_store 4 = .ok (.ifCond .ne 5, 3) := by decide +kernel
theorem d_M_store_7 : decode b_M_store 7 = .ok (.iconst (-1), 1) := by decide +kernel
theorem d_M_store_8 : decode b_M_store 8 = .ok (.ireturn, 1) := by decide +kernel
theorem d_M_store_9 : decode b_M_store 9 = .ok (.aload_n 0, 1) := by decide +kernel
theorem d_M_store_10 : decode b_M_store 10 = .ok (.getfield 16, 3) := by decide +kernel
theorem d_M_store_13 : decode b_M_store 13 = .ok (.iload_n 1, 1) := by decide +kernel
theorem d_M_store_14 : decode b_M_store 14 = .ok (.iaload, 1) := by decide +kernel
theorem d_M_store_15 : decode b_M_store 15 = .ok (.ifCond .lt 6, 3) := by decide +kernel
theorem d_M_store_18 : decode b_M_store 18 = .ok (.bipush (-3), 2) := by decide +kernel
theorem d_M_store_20 : decode b_M_store 20 = .ok (.ireturn, 1) := by decide +kernel
theorem d_M_store_21 : decode b_M_store 21 = .ok (.iconst 0, 1) := by decide +kernel
theorem d_M_store_22 : decode b_M_store 22 = .ok (.istore_n 2, 1) := by decide +kernel
theorem d_M_store_23 : decode b_M_store 23 = .ok (.iload_n 2, 1) := by decide +kernel
theorem d_M_store_24 : decode b_M_store 24 = .ok (.aload_n 0, 1) := by decide +kernel
theorem d_M_store_25 : decode b_M_store 25 = .ok (.getfield 44, 3) := by decide +kernel
theorem d_M_store_28 : decode b_M_store 28 = .ok (.if_icmp .ge 43, 3) := by decide +kernel
theorem d_M_store_31 : decode b_M_store 31 = .ok (.aload_n 0, 1) := by decide +kernel
theorem d_M_store_32 : decode b_M_store 32 = .ok (.getfield 19, 3) := by decide +kernel
theorem d_M_store_35 : decode b_M_store 35 = .ok (.bipush 60, 2) := by decide +kernel
theorem d_M_store_37 : decode b_M_store 37 = .ok (.iload_n 1, 1) := by decide +kernel
theorem d_M_store_38 : decode b_M_store 38 = .ok (.imul, 1) := by decide +kernel
theorem d_M_store_39 : decode b_M_store 39 = .ok (.iload_n 2, 1) := by decide +kernel
theorem d_M_store_40 : decode b_M_store 40 = .ok (.iadd, 1) := by decide +kernel
theorem d_M_store_41 : decode b_M_store 41 = .ok (.aload_n 0, 1) := by decide +kernel
theorem d_M_store_42 : decode b_M_store 42 = .ok (.getfield 7, 3) := by decide +kernel
theorem d_M_store_45 : decode b_M_store 45 = .ok (.iload_n 2, 1) := by decide +kernel
theorem d_M_store_46 : decode b_M_store 46 = .ok (.iaload, 1) := by decide +kernel
theorem d_M_store_47 : decode b_M_store 47 = .ok (.iastore, 1) := by decide +kernel
theorem d_M_store_48 : decode b_M_store 48 = .ok (.aload_n 0, 1) := by decide +kernel
theorem d_M_store_49 : decode b_M_store 49 = .ok (.getfield 22, 3) := by decide +kernel
theorem d_M_store_52 : decode b_M_store 52 = .ok (.bipush 60, 2) := by decide +kernel
theorem d_M_store_54 : decode b_M_store 54 = .ok (.iload_n 1, 1) := by decide +kernel
theorem d_M_store_55 : decode b_M_store 55 = .ok (.imul, 1) := by decide +kernel
theorem d_M_store_56 : decode b_M_store 56 = .ok (.iload_n 2, 1) := by decide +kernel
theorem d_M_store_57 : decode b_M_store 57 = .ok (.iadd, 1) := by decide +kernel
theorem d_M_store_58 : decode b_M_store 58 = .ok (.aload_n 0, 1) := by decide +kernel
theorem d_M_store_59 : decode b_M_store 59 = .ok (.getfield 13, 3) := by decide +kernel
theorem d_M_store_62 : decode b_M_store 62 = .ok (.iload_n 2, 1) := by decide +kernel
theorem d_M_store_63 : decode b_M_store 63 = .ok (.iaload, 1) := by decide +kernel
theorem d_M_store_64 : decode b_M_store 64 = .ok (.iastore, 1) := by decide +kernel
theorem d_M_store_65 : decode b_M_store 65 = .ok (.iinc 2 1, 3) := by decide +kernel
theorem d_M_store_68 : decode b_M_store 68 = .ok (.goto (-45), 3) := by decide +kernel
theorem d_M_store_71 : decode b_M_store 71 = .ok (.aload_n 0, 1) := by decide +kernel
theorem d_M_store_72 : decode b_M_store 72 = .ok (.getfield 16, 3) := by decide +kernel
theorem d_M_store_75 : decode b_M_store 75 = .ok (.iload_n 1, 1) := by decide +kernel
theorem d_M_store_76 : decode b_M_store 76 = .ok (.aload_n 0, 1) := by decide +kernel
theorem d_M_store_77 : decode b_M_store 77 = .ok (.getfield 44, 3) := by decide +kernel
theorem d_M_store_80 : decode b_M_store 80 = .ok (.iastore, 1) := by decide +kernel
theorem d_M_store_81 : decode b_M_store 81 = .ok (.aload_n 0, 1) := by decide +kernel
theorem d_M_store_82 : decode b_M_store 82 = .ok (.aload_n 0, 1) := by decide +kernel
theorem d_M_store_83 : decode b_M_store 83 = .ok (.getfield 51, 3) := by decide +kernel
theorem d_M_store_86 : decode b_M_store 86 = .ok (.aload_n 0, 1) := by decide +kernel
theorem d_M_store_87 : decode b_M_store 87 = .ok (.getfield 44, 3) := by decide +kernel
theorem d_M_store_90 : decode b_M_store 90 = .ok (.invokestatic 38, 3) := by decide +kernel
theorem d_M_store_93 : decode b_M_store 93 = .ok (.i2l, 1) := by decide +kernel
theorem d_M_store_94 : decode b_M_store 94 = .ok (.ladd, 1) := by decide +kernel
theorem d_M_store_95 : decode b_M_store 95 = .ok (.putfield 51, 3) := by decide +kernel
theorem d_M_store_98 : decode b_M_store 98 = .ok (.aload_n 0, 1) := by decide +kernel
theorem d_M_store_99 : decode b_M_store 99 = .ok (.iconst 0, 1) := by decide +kernel
theorem d_M_store_100 : decode b_M_store 100 = .ok (.putfield 44, 3) := by decide +kernel
theorem d_M_store_103 : decode b_M_store 103 = .ok (.aload_n 0, 1) := by decide +kernel
theorem d_M_store_104 : decode b_M_store 104 = .ok (.getfield 16, 3) := by decide +kernel
theorem d_M_store_107 : decode b_M_store 107 = .ok (.iload_n 1, 1) := by decide +kernel
theorem d_M_store_108 : decode b_M_store 108 = .ok (.iaload, 1) := by decide +kernel
theorem d_M_store_109 : decode b_M_store 109 = .ok (.ireturn, 1) := by decide +kernel
theorem d_M_drop_0 : decode b_M_drop 0 = .ok (.iload_n 1, 1) := by decide +kernel
theorem d_M_drop_1 : decode b_M_drop 1 = .ok (.invokestatic 47, 3) := by decide +kernel
theorem d_M_drop_4 : decode b_M_drop 4 = .ok (.ifCond .ne 5, 3) := by decide +kernel
theorem d_M_drop_7 : decode b_M_drop 7 = .ok (.iconst (-1), 1) := by decide +kernel
theorem d_M_drop_8 : decode b_M_drop 8 = .ok (.ireturn, 1) := by decide +kernel
theorem d_M_drop_9 : decode b_M_drop 9 = .ok (.aload_n 0, 1) := by decide +kernel
theorem d_M_drop_10 : decode b_M_drop 10 = .ok (.getfield 16, 3) := by decide +kernel
theorem d_M_drop_13 : decode b_M_drop 13 = .ok (.iload_n 1, 1) := by decide +kernel
theorem d_M_drop_14 : decode b_M_drop 14 = .ok (.iaload, 1) := by decide +kernel
theorem d_M_drop_15 : decode b_M_drop 15 = .ok (.ifCond .ge 6, 3) := by decide +kernel
theorem d_M_drop_18 : decode b_M_drop 18 = .ok (.bipush (-2), 2) := by decide +kernel
theorem d_M_drop_20 : decode b_M_drop 20 = .ok (.ireturn, 1) := by decide +kernel
theorem d_M_drop_21 : decode b_M_drop 21 = .ok (.aload_n 0, 1) := by decide +kernel
theorem d_M_drop_22 : decode b_M_drop 22 = .ok (.getfield 16, 3) := by decide +kernel
theorem d_M_drop_25 : decode b_M_drop 25 = .ok (.iload_n 1, 1) := by decide +kernel
theorem d_M_drop_26 : decode b_M_drop 26 = .ok (.iaload, 1) := by decide +kernel
theorem d_M_drop_27 : decode b_M_drop 27 = .ok (.istore_n 2, 1) := by decide +kernel
theorem d_M_drop_28 : decode b_M_drop 28 = .ok (.aload_n 0, 1) := by decide +kernel
theorem d_M_drop_29 : decode b_M_drop 29 = .ok (.getfield 16, 3) := by decide +kernel
theorem d_M_drop_32 : decode b_M_drop 32 = .ok (.iload_n 1, 1) := by decide +kernel
theorem d_M_drop_33 : decode b_M_drop 33 = .ok (.iconst (-1), 1) := by decide +kernel
theorem d_M_drop_34 : decode b_M_drop 34 = .ok (.iastore, 1) := by decide +kernel
theorem d_M_drop_35 : decode b_M_drop 35 = .ok (.iload_n 2, 1) := by decide +kernel
theorem d_M_drop_36 : decode b_M_drop 36 = .ok (.ireturn, 1) := by decide +kernel
theorem d_M_rows_0 : decode b_M_rows 0 = .ok (.iload_n 1, 1) := by decide +kernel
theorem d_M_rows_1 : decode b_M_rows 1 = .ok (.invokestatic 47, 3) := by decide +kernel
theorem d_M_rows_4 : decode b_M_rows 4 = .ok (.ifCond .eq 12, 3) := by decide +kernel
theorem d_M_rows_7 : decode b_M_rows 7 = .ok (.aload_n 0, 1) := by decide +kernel
theorem d_M_rows_8 : decode b_M_rows 8 = .ok (.getfield 16, 3) := by decide +kernel
theorem d_M_rows_11 : decode b_M_rows 11 = .ok (.iload_n 1, 1) := by decide +kernel
theorem d_M_rows_12 : decode b_M_rows 12 = .ok (.iaload, 1) := by decide +kernel
theorem d_M_rows_13 : decode b_M_rows 13 = .ok (.goto 4, 3) := by decide +kernel
theorem d_M_rows_16 : decode b_M_rows 16 = .ok (.iconst (-1), 1) := by decide +kernel
theorem d_M_rows_17 : decode b_M_rows 17 = .ok (.ireturn, 1) := by decide +kernel
theorem d_M_key_0 : decode b_M_key 0 = .ok (.iload_n 1, 1) := by decide +kernel
theorem d_M_key_1 : decode b_M_key 1 = .ok (.invokestatic 47, 3) := by decide +kernel
theorem d_M_key_4 : decode b_M_key 4 = .ok (.ifCond .eq 31, 3) := by decide +kernel
theorem d_M_key_7 : decode b_M_key 7 = .ok (.iload_n 2, 1) := by decide +kernel
theorem d_M_key_8 : decode b_M_key 8 = .ok (.ifCond .lt 27, 3) := by decide +kernel
theorem d_M_key_11 : decode b_M_key 11 = .ok (.iload_n 2, 1) := by decide +kernel
theorem d_M_key_12 : decode b_M_key 12 = .ok (.aload_n 0, 1) := by decide +kernel
theorem d_M_key_13 : decode b_M_key 13 = .ok (.getfield 16, 3) := by decide +kernel
theorem d_M_key_16 : decode b_M_key 16 = .ok (.iload_n 1, 1) := by decide +kernel
theorem d_M_key_17 : decode b_M_key 17 = .ok (.iaload, 1) := by decide +kernel
theorem d_M_key_18 : decode b_M_key 18 = .ok (.if_icmp .ge 17, 3) := by decide +kernel
theorem d_M_key_21 : decode b_M_key 21 = .ok (.aload_n 0, 1) := by decide +kernel
theorem d_M_key_22 : decode b_M_key 22 = .ok (.getfield 19, 3) := by decide +kernel
theorem d_M_key_25 : decode b_M_key 25 = .ok (.bipush 60, 2) := by decide +kernel
theorem d_M_key_27 : decode b_M_key 27 = .ok (.iload_n 1, 1) := by decide +kernel
theorem d_M_key_28 : decode b_M_key 28 = .ok (.imul, 1) := by decide +kernel
theorem d_M_key_29 : decode b_M_key 29 = .ok (.iload_n 2, 1) := by decide +kernel
theorem d_M_key_30 : decode b_M_key 30 = .ok (.iadd, 1) := by decide +kernel
theorem d_M_key_31 : decode b_M_key 31 = .ok (.iaload, 1) := by decide +kernel
theorem d_M_key_32 : decode b_M_key 32 = .ok (.goto 4, 3) := by decide +kernel
theorem d_M_key_35 : decode b_M_key 35 = .ok (.iconst 0, 1) := by decide +kernel
theorem d_M_key_36 : decode b_M_key 36 = .ok (.ireturn, 1) := by decide +kernel
theorem d_M_value_0 : decode b_M_value 0 = .ok (.iload_n 1, 1) := by decide +kernel
theorem d_M_value_1 : decode b_M_value 1 = .ok (.invokestatic 47, 3) := by decide +kernel
theorem d_M_value_4 : decode b_M_value 4 = .ok (.ifCond .eq 31, 3) := by decide +kernel
theorem d_M_value_7 : decode b_M_value 7 = .ok (.iload_n 2, 1) := by decide +kernel
theorem d_M_value_8 : decode b_M_value 8 = .ok (.ifCond .lt 27, 3) := by decide +kernel
theorem d_M_value_11 : decode b_M_value 11 = .ok (.iload_n 2, 1) := by decide +kernel
theorem d_M_value_12 : decode b_M_value 12 = .ok (.aload_n 0, 1) := by decide +kernel
theorem d_M_value_13 : decode b_M_value 13 = .ok (.getfield 16, 3) := by decide +kernel
theorem d_M_value_16 : decode b_M_value 16 = .ok (.iload_n 1, 1) := by decide +kernel
theorem d_M_value_17 : decode b_M_value 17 = .ok (.iaload, 1) := by decide +kernel
theorem d_M_value_18 : decode b_M_value 18 = .ok (.if_icmp .ge 17, 3) := by decide +kernel
theorem d_M_value_21 : decode b_M_value 21 = .ok (.aload_n 0, 1) := by decide +kernel
theorem d_M_value_22 : decode b_M_value 22 = .ok (.getfield 22, 3) := by decide +kernel
theorem d_M_value_25 : decode b_M_value 25 = .ok (.bipush 60, 2) := by decide +kernel
theorem d_M_value_27 : decode b_M_value 27 = .ok (.iload_n 1, 1) := by decide +kernel
theorem d_M_value_28 : decode b_M_value 28 = .ok (.imul, 1) := by decide +kernel
theorem d_M_value_29 : decode b_M_value 29 = .ok (.iload_n 2, 1) := by decide +kernel
theorem d_M_value_30 : decode b_M_value 30 = .ok (.iadd, 1) := by decide +kernel
theorem d_M_value_31 : decode b_M_value 31 = .ok (.iaload, 1) := by decide +kernel
theorem d_M_value_32 : decode b_M_value 32 = .ok (.goto 4, 3) := by decide +kernel
theorem d_M_value_35 : decode b_M_value 35 = .ok (.iconst 0, 1) := by decide +kernel
theorem d_M_value_36 : decode b_M_value 36 = .ok (.ireturn, 1) := by decide +kernel
theorem d_M_refuse_0 : decode b_M_refuse 0 = .ok (.iload_n 1, 1) := by decide +kernel
theorem d_M_refuse_1 : decode b_M_refuse 1 = .ok (.ifCond .eq 25, 3) := by decide +kernel
theorem d_M_refuse_4 : decode b_M_refuse 4 = .ok (.iload_n 2, 1) := by decide +kernel
theorem d_M_refuse_5 : decode b_M_refuse 5 = .ok (.invokestatic 47, 3) := by decide +kernel
theorem d_M_refuse_8 : decode b_M_refuse 8 = .ok (.ifCond .eq 18, 3) := by decide +kernel
theorem d_M_refuse_11 : decode b_M_refuse 11 = .ok (.iload_n 3, 1) := by decide +kernel
theorem d_M_refuse_12 : decode b_M_refuse 12 = .ok (.invokestatic 47, 3) := by decide +kernel
theorem d_M_refuse_15 : decode b_M_refuse 15 = .ok (.ifCond .eq 11, 3) := by decide +kernel
theorem d_M_refuse_18 : decode b_M_refuse 18 = .ok (.iload 4, 2) := by decide +kernel
theorem d_M_refuse_20 : decode b_M_refuse 20 = .ok (.invokestatic 47, 3) := by decide +kernel
theorem d_M_refuse_23 : decode b_M_refuse 23 = .ok (.ifCond .ne 5, 3) := by decide +kernel
theorem d_M_refuse_26 : decode b_M_refuse 26 = .ok (.iconst (-1), 1) := by decide +kernel
theorem d_M_refuse_27 : decode b_M_refuse 27 = .ok (.ireturn, 1) := by decide +kernel
theorem d_M_refuse_28 : decode b_M_refuse 28 = .ok (.aload_n 0, 1) := by decide +kernel
theorem d_M_refuse_29 : decode b_M_refuse 29 = .ok (.iconst 0, 1) := by decide +kernel
theorem d_M_refuse_30 : decode b_M_refuse 30 = .ok (.putfield 55, 3) := by decide +kernel
theorem d_M_refuse_33 : decode b_M_refuse 33 = .ok (.aload_n 0, 1) := by decide +kernel
theorem d_M_refuse_34 : decode b_M_refuse 34 = .ok (.lconst 0, 1) := by decide +kernel
theorem d_M_refuse_35 : decode b_M_refuse 35 = .ok (.putfield 58, 3) := by decide +kernel
theorem d_M_refuse_38 : decode b_M_refuse 38 = .ok (.aload_n 0, 1) := by decide +kernel
theorem d_M_refuse_39 : decode b_M_refuse 39 = .ok (.getfield 16, 3) := by decide +kernel
theorem d_M_refuse_42 : decode b_M_refuse 42 = .ok (.iload_n 2, 1) := by decide +kernel
theorem d_M_refuse_43 : decode b_M_refuse 43 = .ok (.iaload, 1) := by decide +kernel
theorem d_M_refuse_44 : decode b_M_refuse 44 = .ok (.ifCond .lt 12, 3) := by decide +kernel
theorem d_M_refuse_47 : decode b_M_refuse 47 = .ok (.aload_n 0, 1) := by decide +kernel
theorem d_M_refuse_48 : decode b_M_refuse 48 = .ok (.getfield 16, 3) := by decide +kernel
theorem d_M_refuse_51 : decode b_M_refuse 51 = .ok (.iload_n 3, 1) := by decide +kernel
theorem d_M_refuse_52 : decode b_M_refuse 52 = .ok (.iaload, 1) := by decide +kernel
theorem d_M_refuse_53 : decode b_M_refuse 53 = .ok (.ifCond .ge 8, 3) := by decide +kernel
theorem d_M_refuse_56 : decode b_M_refuse 56 = .ok (.bipush (-2), 2) := by decide +kernel
theorem d_M_refuse_58 : decode b_M_refuse 58 = .ok (.goto 19, 3) := by decide +kernel
theorem d_M_refuse_61 : decode b_M_refuse 61 = .ok (.aload_n 0, 1) := by decide +kernel
theorem d_M_refuse_62 : decode b_M_refuse 62 = .ok (.getfield 16, 3) := by decide +kernel
theorem d_M_refuse_65 : decode b_M_refuse 65 = .ok (.iload 4, 2) := by decide +kernel
theorem d_M_refuse_67 : decode b_M_refuse 67 = .ok (.iaload, 1) := by decide +kernel
theorem d_M_refuse_68 : decode b_M_refuse 68 = .ok (.ifCond .lt 8, 3) := by decide +kernel
theorem d_M_refuse_71 : decode b_M_refuse 71 = .ok (.bipush (-3), 2) := by decide +kernel
theorem d_M_refuse_73 : decode b_M_refuse 73 = .ok (.goto 4, 3) := by decide +kernel
theorem d_M_refuse_76 : decode b_M_refuse 76 = .ok (.iconst 0, 1) := by decide +kernel
theorem d_M_refuse_77 : decode b_M_refuse 77 = .ok (.ireturn, 1) := by decide +kernel
theorem d_M_make_0 : decode b_M_make 0 = .ok (.aload_n 0, 1) := by decide +kernel
theorem d_M_make_1 : decode b_M_make 1 = .ok (.getfield 55, 3) := by decide +kernel
theorem d_M_make_4 : decode b_M_make 4 = .ok (.bipush 60, 2) := by decide +kernel
theorem d_M_make_6 : decode b_M_make 6 = .ok (.if_icmp .ge 23, 3) := by decide +kernel
theorem d_M_make_9 : decode b_M_make 9 = .ok (.aload_n 0, 1) := by decide +kernel
theorem d_M_make_10 : decode b_M_make 10 = .ok (.getfield 25, 3) := by decide +kernel
theorem d_M_make_13 : decode b_M_make 13 = .ok (.aload_n 0, 1) := by decide +kernel
theorem d_M_make_14 : decode b_M_make 14 = .ok (.getfield 55, 3) := by decide +kernel
theorem d_M_make_17 : decode b_M_make 17 = .ok (.iload_n 1, 1) := by decide +kernel
theorem d_M_make_18 : decode b_M_make 18 = .ok (.iastore, 1) := by decide +kernel
theorem d_M_make_19 : decode b_M_make 19 = .ok (.aload_n 0, 1) := by decide +kernel
theorem d_M_make_20 : decode b_M_make 20 = .ok (.getfield 28, 3) := by decide +kernel
theorem d_M_make_23 : decode b_M_make 23 = .ok (.aload_n 0, 1) := by decide +kernel
theorem d_M_make_24 : decode b_M_make 24 = .ok (.getfield 55, 3) := by decide +kernel
theorem d_M_make_27 : decode b_M_make 27 = .ok (.iload_n 2, 1) := by decide +kernel
theorem d_M_make_28 : decode b_M_make 28 = .ok (.iastore, 1) := by decide +kernel
theorem d_M_make_29 : decode b_M_make 29 = .ok (.aload_n 0, 1) := by decide +kernel
theorem d_M_make_30 : decode b_M_make 30 = .ok (.dup, 1) := by decide +kernel
theorem d_M_make_31 : decode b_M_make 31 = .ok (.getfield 55, 3) := by decide +kernel
theorem d_M_make_34 : decode b_M_make 34 = .ok (.iconst 1, 1) := by decide +kernel
theorem d_M_make_35 : decode b_M_make 35 = .ok (.iadd, 1) := by decide +kernel
theorem d_M_make_36 : decode b_M_make 36 = .ok (.putfield 55, 3) := by decide +kernel
theorem d_M_make_39 : decode b_M_make 39 = .ok (.return_, 1) := by decide +kernel
theorem d_M_finish_0 : decode b_M_finish 0 = .ok (.aload_n 0, 1) := by decide +kernel
theorem d_M_finish_1 : decode b_M_finish 1 = .ok (.getfield 55, 3) := by decide +kernel
theorem d_M_finish_4 : decode b_M_finish 4 = .ok (.bipush 60, 2) := by decide +kernel
theorem d_M_finish_6 : decode b_M_finish 6 = .ok (.if_icmp .le 6, 3) := by decide +kernel
theorem d_M_finish_9 : decode b_M_finish 9 = .ok (.bipush (-4), 2) := by decide +kernel
theorem d_M_finish_11 : decode b_M_finish 11 = .ok (.ireturn, 1) := by decide +kernel
theorem d_M_finish_12 : decode b_M_finish 12 = .ok (.iconst 0, 1) := by decide +kernel
theorem d_M_finish_13 : decode b_M_finish 13 = .ok (.istore_n 2, 1) := by decide +kernel
theorem d_M_finish_14 : decode b_M_finish 14 = .ok (.iload_n 2, 1) := by decide +kernel
theorem d_M_finish_15 : decode b_M_finish 15 = .ok (.aload_n 0, 1) := by decide +kernel
theorem d_M_finish_16 : decode b_M_finish 16 = .ok (.getfield 55, 3) := by decide +kernel
theorem d_M_finish_19 : decode b_M_finish 19 = .ok (.if_icmp .ge 43, 3) := by decide +kernel
theorem d_M_finish_22 : decode b_M_finish 22 = .ok (.aload_n 0, 1) := by decide +kernel
theorem d_M_finish_23 : decode b_M_finish 23 = .ok (.getfield 19, 3) := by decide +kernel
theorem d_M_finish_26 : decode b_M_finish 26 = .ok (.bipush 60, 2) := by decide +kernel
theorem d_M_finish_28 : decode b_M_finish 28 = .ok (.iload_n 1, 1) := by decide +kernel
theorem d_M_finish_29 : decode b_M_finish 29 = .ok (.imul, 1) := by decide +kernel
theorem d_M_finish_30 : decode b_M_finish 30 = .ok (.iload_n 2, 1) := by decide +kernel
theorem d_M_finish_31 : decode b_M_finish 31 = .ok (.iadd, 1) := by decide +kernel
theorem d_M_finish_32 : decode b_M_finish 32 = .ok (.aload_n 0, 1) := by decide +kernel
theorem d_M_finish_33 : decode b_M_finish 33 = .ok (.getfield 25, 3) := by decide +kernel
theorem d_M_finish_36 : decode b_M_finish 36 = .ok (.iload_n 2, 1) := by decide +kernel
theorem d_M_finish_37 : decode b_M_finish 37 = .ok (.iaload, 1) := by decide +kernel
theorem d_M_finish_38 : decode b_M_finish 38 = .ok (.iastore, 1) := by decide +kernel
theorem d_M_finish_39 : decode b_M_finish 39 = .ok (.aload_n 0, 1) := by decide +kernel
theorem d_M_finish_40 : decode b_M_finish 40 = .ok (.getfield 22, 3) := by decide +kernel
theorem d_M_finish_43 : decode b_M_finish 43 = .ok (.bipush 60, 2) := by decide +kernel
theorem d_M_finish_45 : decode b_M_finish 45 = .ok (.iload_n 1, 1) := by decide +kernel
theorem d_M_finish_46 : decode b_M_finish 46 = .ok (.imul, 1) := by decide +kernel
theorem d_M_finish_47 : decode b_M_finish 47 = .ok (.iload_n 2, 1) := by decide +kernel
theorem d_M_finish_48 : decode b_M_finish 48 = .ok (.iadd, 1) := by decide +kernel
theorem d_M_finish_49 : decode b_M_finish 49 = .ok (.aload_n 0, 1) := by decide +kernel
theorem d_M_finish_50 : decode b_M_finish 50 = .ok (.getfield 28, 3) := by decide +kernel
theorem d_M_finish_53 : decode b_M_finish 53 = .ok (.iload_n 2, 1) := by decide +kernel
theorem d_M_finish_54 : decode b_M_finish 54 = .ok (.iaload, 1) := by decide +kernel
theorem d_M_finish_55 : decode b_M_finish 55 = .ok (.iastore, 1) := by decide +kernel
theorem d_M_finish_56 : decode b_M_finish 56 = .ok (.iinc 2 1, 3) := by decide +kernel
theorem d_M_finish_59 : decode b_M_finish 59 = .ok (.goto (-45), 3) := by decide +kernel
theorem d_M_finish_62 : decode b_M_finish 62 = .ok (.aload_n 0, 1) := by decide +kernel
theorem d_M_finish_63 : decode b_M_finish 63 = .ok (.getfield 16, 3) := by decide +kernel
theorem d_M_finish_66 : decode b_M_finish 66 = .ok (.iload_n 1, 1) := by decide +kernel
theorem d_M_finish_67 : decode b_M_finish 67 = .ok (.aload_n 0, 1) := by decide +kernel
theorem d_M_finish_68 : decode b_M_finish 68 = .ok (.getfield 55, 3) := by decide +kernel
theorem d_M_finish_71 : decode b_M_finish 71 = .ok (.iastore, 1) := by decide +kernel
theorem d_M_finish_72 : decode b_M_finish 72 = .ok (.aload_n 0, 1) := by decide +kernel
theorem d_M_finish_73 : decode b_M_finish 73 = .ok (.aload_n 0, 1) := by decide +kernel
theorem d_M_finish_74 : decode b_M_finish 74 = .ok (.getfield 51, 3) := by decide +kernel
theorem d_M_finish_77 : decode b_M_finish 77 = .ok (.aload_n 0, 1) := by decide +kernel
theorem d_M_finish_78 : decode b_M_finish 78 = .ok (.getfield 58, 3) := by decide +kernel
theorem d_M_finish_81 : decode b_M_finish 81 = .ok (.ladd, 1) := by decide +kernel
theorem d_M_finish_82 : decode b_M_finish 82 = .ok (.putfield 51, 3) := by decide +kernel
theorem d_M_finish_85 : decode b_M_finish 85 = .ok (.aload_n 0, 1) := by decide +kernel
theorem d_M_finish_86 : decode b_M_finish 86 = .ok (.getfield 55, 3) := by decide +kernel
theorem d_M_finish_89 : decode b_M_finish 89 = .ok (.ireturn, 1) := by decide +kernel
theorem d_M_compare_0 : decode b_M_compare 0 = .ok (.iload_n 0, 1) := by decide +kernel
theorem d_M_compare_1 : decode b_M_compare 1 = .ok (.iload_n 2, 1) := by decide +kernel
theorem d_M_compare_2 : decode b_M_compare 2 = .ok (.if_icmp .eq 16, 3) := by decide +kernel
theorem d_M_compare_5 : decode b_M_compare 5 = .ok (.iload_n 0, 1) := by decide +kernel
theorem d_M_compare_6 : decode b_M_compare 6 = .ok (.iload_n 2, 1) := by decide +kernel
theorem d_M_compare_7 : decode b_M_compare 7 = .ok (.if_icmp .ge 7, 3) := by decide +kernel
theorem d_M_compare_10 : decode b_M_compare 10 = .ok (.iconst (-1), 1) := by decide +kernel
theorem d_M_compare_11 : decode b_M_compare 11 = .ok (.goto 26, 3) := by decide +kernel
theorem d_M_compare_14 : decode b_M_compare 14 = .ok (.iconst 1, 1) := by decide +kernel
theorem d_M_compare_15 : decode b_M_compare 15 = .ok (.goto 22, 3) := by decide +kernel
theorem d_M_compare_18 : decode b_M_compare 18 = .ok (.iload_n 1, 1) := by decide +kernel
theorem d_M_compare_19 : decode b_M_compare 19 = .ok (.iload_n 3, 1) := by decide +kernel
theorem d_M_compare_20 : decode b_M_compare 20 = .ok (.if_icmp .eq 16, 3) := by decide +kernel
theorem d_M_compare_23 : decode b_M_compare 23 = .ok (.iload_n 1, 1) := by decide +kernel
theorem d_M_compare_24 : decode b_M_compare 24 = .ok (.iload_n 3, 1) := by decide +kernel
theorem d_M_compare_25 : decode b_M_compare 25 = .ok (.if_icmp .ge 7, 3) := by decide +kernel
theorem d_M_compare_28 : decode b_M_compare 28 = .ok (.iconst (-1), 1) := by decide +kernel
theorem d_M_compare_29 : decode b_M_compare 29 = .ok (.goto 8, 3) := by decide +kernel
theorem d_M_compare_32 : decode b_M_compare 32 = .ok (.iconst 1, 1) := by decide +kernel
theorem d_M_compare_33 : decode b_M_compare 33 = .ok (.goto 4, 3) := by decide +kernel
theorem d_M_compare_36 : decode b_M_compare 36 = .ok (.iconst 0, 1) := by decide +kernel
theorem d_M_compare_37 : decode b_M_compare 37 = .ok (.ireturn, 1) := by decide +kernel
theorem d_M_before_0 : decode b_M_before 0 = .ok (.iload_n 1, 1) := by decide +kernel
theorem d_M_before_1 : decode b_M_before 1 = .ok (.iload_n 2, 1) := by decide +kernel
theorem d_M_before_2 : decode b_M_before 2 = .ok (.iadd, 1) := by decide +kernel
theorem d_M_before_3 : decode b_M_before 3 = .ok (.istore 5, 2) := by decide +kernel
theorem d_M_before_5 : decode b_M_before 5 = .ok (.iload_n 1, 1) := by decide +kernel
theorem d_M_before_6 : decode b_M_before 6 = .ok (.iload_n 3, 1) := by decide +kernel
theorem d_M_before_7 : decode b_M_before 7 = .ok (.iadd, 1) := by decide +kernel
theorem d_M_before_8 : decode b_M_before 8 = .ok (.istore 6, 2) := by decide +kernel
theorem d_M_before_10 : decode b_M_before 10 = .ok (.iload 4, 2) := by decide +kernel
theorem d_M_before_12 : decode b_M_before 12 = .ok (.ifCond .ne 25, 3) := by decide +kernel
theorem d_M_before_15 : decode b_M_before 15 = .ok (.aload_n 0, 1) := by decide +kernel
theorem d_M_before_16 : decode b_M_before 16 = .ok (.getfield 19, 3) := by decide +kernel
theorem d_M_before_19 : decode b_M_before 19 = .ok (.iload 5, 2) := by decide +kernel
theorem d_M_before_21 : decode b_M_before 21 = .ok (.iaload, 1) := by decide +kernel
theorem d_M_before_22 : decode b_M_before 22 = .ok (.iconst 0, 1) := by decide +kernel
theorem d_M_before_23 : decode b_M_before 23 = .ok (.aload_n 0, 1) := by decide +kernel
theorem d_M_before_24 : decode b_M_before 24 = .ok (.getfield 19, 3) := by decide +kernel
theorem d_M_before_27 : decode b_M_before 27 = .ok (.iload 6, 2) := by decide +kernel
theorem d_M_before_29 : decode b_M_before 29 = .ok (.iaload, 1) := by decide +kernel
theorem d_M_before_30 : decode b_M_before 30 = .ok (.iconst 0, 1) := by decide +kernel
theorem d_M_before_31 : decode b_M_before 31 = .ok (.invokestatic 61, 3) := by decide +kernel
theorem d_M_before_34 : decode b_M_before 34 = .ok (.goto 62, 3) := by decide +kernel
theorem d_M_before_37 : decode b_M_before 37 = .ok (.iload 4, 2) := by decide +kernel
theorem d_M_before_39 : decode b_M_before 39 = .ok (.iconst 1, 1) := by decide +kernel
theorem d_M_before_40 : decode b_M_before 40 = .ok (.if_icmp .ne 25, 3) := by decide +kernel
theorem d_M_before_43 : decode b_M_before 43 = .ok (.iconst 0, 1) := by decide +kernel
theorem d_M_before_44 : decode b_M_before 44 = .ok (.aload_n 0, 1) := by decide +kernel
theorem d_M_before_45 : decode b_M_before 45 = .ok (.getfield 22, 3) := by decide +kernel
theorem d_M_before_48 : decode b_M_before 48 = .ok (.iload 5, 2) := by decide +kernel
theorem d_M_before_50 : decode b_M_before 50 = .ok (.iaload, 1) := by decide +kernel
theorem d_M_before_51 : decode b_M_before 51 = .ok (.iconst 0, 1) := by decide +kernel
theorem d_M_before_52 : decode b_M_before 52 = .ok (.aload_n 0, 1) := by decide +kernel
theorem d_M_before_53 : decode b_M_before 53 = .ok (.getfield 22, 3) := by decide +kernel
theorem d_M_before_56 : decode b_M_before 56 = .ok (.iload 6, 2) := by decide +kernel
theorem d_M_before_58 : decode b_M_before 58 = .ok (.iaload, 1) := by decide +kernel
theorem d_M_before_59 : decode b_M_before 59 = .ok (.invokestatic 61, 3) := by decide +kernel
theorem d_M_before_62 : decode b_M_before 62 = .ok (.goto 34, 3) := by decide +kernel
theorem d_M_before_65 : decode b_M_before 65 = .ok (.aload_n 0, 1) := by decide +kernel
theorem d_M_before_66 : decode b_M_before 66 = .ok (.getfield 19, 3) := by decide +kernel
theorem d_M_before_69 : decode b_M_before 69 = .ok (.iload 5, 2) := by decide +kernel
theorem d_M_before_71 : decode b_M_before 71 = .ok (.iaload, 1) := by decide +kernel
theorem d_M_before_72 : decode b_M_before 72 = .ok (.aload_n 0, 1) := by decide +kernel
theorem d_M_before_73 : decode b_M_before 73 = .ok (.getfield 22, 3) := by decide +kernel
theorem d_M_before_76 : decode b_M_before 76 = .ok (.iload 5, 2) := by decide +kernel
theorem d_M_before_78 : decode b_M_before 78 = .ok (.iaload, 1) := by decide +kernel
theorem d_M_before_79 : decode b_M_before 79 = .ok (.aload_n 0, 1) := by decide +kernel
theorem d_M_before_80 : decode b_M_before 80 = .ok (.getfield 19, 3) := by decide +kernel
theorem d_M_before_83 : decode b_M_before 83 = .ok (.iload 6, 2) := by decide +kernel
theorem d_M_before_85 : decode b_M_before 85 = .ok (.iaload, 1) := by decide +kernel
theorem d_M_before_86 : decode b_M_before 86 = .ok (.aload_n 0, 1) := by decide +kernel
theorem d_M_before_87 : decode b_M_before 87 = .ok (.getfield 22, 3) := by decide +kernel
theorem d_M_before_90 : decode b_M_before 90 = .ok (.iload 6, 2) := by decide +kernel
theorem d_M_before_92 : decode b_M_before 92 = .ok (.iaload, 1) := by decide +kernel
theorem d_M_before_93 : decode b_M_before 93 = .ok (.invokestatic 61, 3) := by decide +kernel
theorem d_M_before_96 : decode b_M_before 96 = .ok (.istore 7, 2) := by decide +kernel
theorem d_M_before_98 : decode b_M_before 98 = .ok (.iload 7, 2) := by decide +kernel
theorem d_M_before_100 : decode b_M_before 100 = .ok (.ifCond .lt 13, 3) := by decide +kernel
theorem d_M_before_103 : decode b_M_before 103 = .ok (.iload 7, 2) := by decide +kernel
theorem d_M_before_105 : decode b_M_before 105 = .ok (.ifCond .ne 12, 3) := by decide +kernel
theorem d_M_before_108 : decode b_M_before 108 = .ok (.iload_n 2, 1) := by decide +kernel
theorem d_M_before_109 : decode b_M_before 109 = .ok (.iload_n 3, 1) := by decide +kernel
theorem d_M_before_110 : decode b_M_before 110 = .ok (.if_icmp .ge 7, 3) := by decide +kernel
theorem d_M_before_113 : decode b_M_before 113 = .ok (.iconst 1, 1) := by decide +kernel
theorem d_M_before_114 : decode b_M_before 114 = .ok (.goto 4, 3) := by decide +kernel
theorem d_M_before_117 : decode b_M_before 117 = .ok (.iconst 0, 1) := by decide +kernel
theorem d_M_before_118 : decode b_M_before 118 = .ok (.ireturn, 1) := by decide +kernel
theorem d_M_sort_0 : decode b_M_sort 0 = .ok (.aload_n 0, 1) := by decide +kernel
theorem d_M_sort_1 : decode b_M_sort 1 = .ok (.iload_n 2, 1) := by decide +kernel
theorem d_M_sort_2 : decode b_M_sort 2 = .ok (.ifCond .lt 12, 3) := by decide +kernel
theorem d_M_sort_5 : decode b_M_sort 5 = .ok (.iload_n 2, 1) := by decide +kernel
theorem d_M_sort_6 : decode b_M_sort 6 = .ok (.iconst 2, 1) := by decide +kernel
theorem d_M_sort_7 : decode b_M_sort 7 = .ok (.if_icmp .gt 7, 3) := by decide +kernel
theorem d_M_sort_10 : decode b_M_sort 10 = .ok (.iconst 1, 1) := by decide +kernel
theorem d_M_sort_11 : decode b_M_sort 11 = .ok (.goto 4, 3) := by decide +kernel
theorem d_M_sort_14 : decode b_M_sort 14 = .ok (.iconst 0, 1) := by decide +kernel
theorem d_M_sort_15 : decode b_M_sort 15 = .ok (.iload_n 1, 1) := by decide +kernel
theorem d_M_sort_16 : decode b_M_sort 16 = .ok (.iload_n 1, 1) := by decide +kernel
theorem d_M_sort_17 : decode b_M_sort 17 = .ok (.iload_n 3, 1) := by decide +kernel
theorem d_M_sort_18 : decode b_M_sort 18 = .ok (.invokevirtual 65, 3) := by decide +kernel
theorem d_M_sort_21 : decode b_M_sort 21 = .ok (.istore 4, 2) := by decide +kernel
theorem d_M_sort_23 : decode b_M_sort 23 = .ok (.iload 4, 2) := by decide +kernel
theorem d_M_sort_25 : decode b_M_sort 25 = .ok (.ifCond .eq 6, 3) := by decide +kernel
theorem d_M_sort_28 : decode b_M_sort 28 = .ok (.iload 4, 2) := by decide +kernel
theorem d_M_sort_30 : decode b_M_sort 30 = .ok (.ireturn, 1) := by decide +kernel
theorem d_M_sort_31 : decode b_M_sort 31 = .ok (.aload_n 0, 1) := by decide +kernel
theorem d_M_sort_32 : decode b_M_sort 32 = .ok (.getfield 16, 3) := by decide +kernel
theorem d_M_sort_35 : decode b_M_sort 35 = .ok (.iload_n 1, 1) := by decide +kernel
theorem d_M_sort_36 : decode b_M_sort 36 = .ok (.iaload, 1) := by decide +kernel
theorem d_M_sort_37 : decode b_M_sort 37 = .ok (.istore 5, 2) := by decide +kernel
theorem d_M_sort_39 : decode b_M_sort 39 = .ok (.aload_n 0, 1) := by decide +kernel
theorem d_M_sort_40 : decode b_M_sort 40 = .ok (.iload 5, 2) := by decide +kernel
theorem d_M_sort_42 : decode b_M_sort 42 = .ok (.putfield 55, 3) := by decide +kernel
theorem d_M_sort_45 : decode b_M_sort 45 = .ok (.iconst 0, 1) := by decide +kernel
theorem d_M_sort_46 : decode b_M_sort 46 = .ok (.istore 6, 2) := by decide +kernel
theorem d_M_sort_48 : decode b_M_sort 48 = .ok (.iload 6, 2) := by decide +kernel
theorem d_M_sort_50 : decode b_M_sort 50 = .ok (.iload 5, 2) := by decide +kernel
theorem d_M_sort_52 : decode b_M_sort 52 = .ok (.if_icmp .ge 92, 3) := by decide +kernel
theorem d_M_sort_55 : decode b_M_sort 55 = .ok (.iconst 0, 1) := by decide +kernel
theorem d_M_sort_56 : decode b_M_sort 56 = .ok (.istore 7, 2) := by decide +kernel
theorem d_M_sort_58 : decode b_M_sort 58 = .ok (.iconst 0, 1) := by decide +kernel
theorem d_M_sort_59 : decode b_M_sort 59 = .ok (.istore 8, 2) := by decide +kernel
theorem d_M_sort_61 : decode b_M_sort 61 = .ok (.iload 8, 2) := by decide +kernel
theorem d_M_sort_63 : decode b_M_sort 63 = .ok (.iload 5, 2) := by decide +kernel
theorem d_M_sort_65 : decode b_M_sort 65 = .ok (.if_icmp .ge 35, 3) := by decide +kernel
theorem d_M_sort_68 : decode b_M_sort 68 = .ok (.iload 7, 2) := by decide +kernel
theorem d_M_sort_70 : decode b_M_sort 70 = .ok (.aload_n 0, 1) := by decide +kernel
theorem d_M_sort_71 : decode b_M_sort 71 = .ok (.bipush 60, 2) := by decide +kernel
theorem d_M_sort_73 : decode b_M_sort 73 = .ok (.iload_n 1, 1) := by decide +kernel
theorem d_M_sort_74 : decode b_M_sort 74 = .ok (.imul, 1) := by decide +kernel
theorem d_M_sort_75 : decode b_M_sort 75 = .ok (.iload 8, 2) := by decide +kernel
theorem d_M_sort_77 : decode b_M_sort 77 = .ok (.iload 6, 2) := by decide +kernel
theorem d_M_sort_79 : decode b_M_sort 79 = .ok (.iload_n 2, 1) := by decide +kernel
theorem d_M_sort_80 : decode b_M_sort 80 = .ok (.invokevirtual 69, 3) := by decide +kernel
theorem d_M_sort_83 : decode b_M_sort 83 = .ok (.ifCond .eq 7, 3) := by decide +kernel
theorem d_M_sort_86 : decode b_M_sort 86 = .ok (.iconst 1, 1) := by decide +kernel
theorem d_M_sort_87 : decode b_M_sort 87 = .ok (.goto 4, 3) := by decide +kernel
theorem d_M_sort_90 : decode b_M_sort 90 = .ok (.iconst 0, 1) := by decide +kernel
theorem d_M_sort_91 : decode b_M_sort 91 = .ok (.iadd, 1) := by decide +kernel
theorem d_M_sort_92 : decode b_M_sort 92 = .ok (.istore 7, 2) := by decide +kernel
theorem d_M_sort_94 : decode b_M_sort 94 = .ok (.iinc 8 1, 3) := by decide +kernel
theorem d_M_sort_97 : decode b_M_sort 97 = .ok (.goto (-36), 3) := by decide +kernel
theorem d_M_sort_100 : decode b_M_sort 100 = .ok (.aload_n 0, 1) := by decide +kernel
theorem d_M_sort_101 : decode b_M_sort 101 = .ok (.getfield 25, 3) := by decide +kernel
theorem d_M_sort_104 : decode b_M_sort 104 = .ok (.iload 7, 2) := by decide +kernel
theorem d_M_sort_106 : decode b_M_sort 106 = .ok (.aload_n 0, 1) := by decide +kernel
theorem d_M_sort_107 : decode b_M_sort 107 = .ok (.getfield 19, 3) := by decide +kernel
theorem d_M_sort_110 : decode b_M_sort 110 = .ok (.bipush 60, 2) := by decide +kernel
theorem d_M_sort_112 : decode b_M_sort 112 = .ok (.iload_n 1, 1) := by decide +kernel
theorem d_M_sort_113 : decode b_M_sort 113 = .ok (.imul, 1) := by decide +kernel
theorem d_M_sort_114 : decode b_M_sort 114 = .ok (.iload 6, 2) := by decide +kernel
theorem d_M_sort_116 : decode b_M_sort 116 = .ok (.iadd, 1) := by decide +kernel
theorem d_M_sort_117 : decode b_M_sort 117 = .ok (.iaload, 1) := by decide +kernel
theorem d_M_sort_118 : decode b_M_sort 118 = .ok (.iastore, 1) := by decide +kernel
theorem d_M_sort_119 : decode b_M_sort 119 = .ok (.aload_n 0, 1) := by decide +kernel
theorem d_M_sort_120 : decode b_M_sort 120 = .ok (.getfield 28, 3) := by decide +kernel
theorem d_M_sort_123 : decode b_M_sort 123 = .ok (.iload 7, 2) := by decide +kernel
theorem d_M_sort_125 : decode b_M_sort 125 = .ok (.aload_n 0, 1) := by decide +kernel
theorem d_M_sort_126 : decode b_M_sort 126 = .ok (.getfield 22, 3) := by decide +kernel
theorem d_M_sort_129 : decode b_M_sort 129 = .ok (.bipush 60, 2) := by decide +kernel
theorem d_M_sort_131 : decode b_M_sort 131 = .ok (.iload_n 1, 1) := by decide +kernel
theorem d_M_sort_132 : decode b_M_sort 132 = .ok (.imul, 1) := by decide +kernel
theorem d_M_sort_133 : decode b_M_sort 133 = .ok (.iload 6, 2) := by decide +kernel
theorem d_M_sort_135 : decode b_M_sort 135 = .ok (.iadd, 1) := by decide +kernel
theorem d_M_sort_136 : decode b_M_sort 136 = .ok (.iaload, 1) := by decide +kernel
theorem d_M_sort_137 : decode b_M_sort 137 = .ok (.iastore, 1) := by decide +kernel
theorem d_M_sort_138 : decode b_M_sort 138 = .ok (.iinc 6 1, 3) := by decide +kernel
theorem d_M_sort_141 : decode b_M_sort 141 = .ok (.goto (-93), 3) := by decide +kernel
theorem d_M_sort_144 : decode b_M_sort 144 = .ok (.aload_n 0, 1) := by decide +kernel
theorem d_M_sort_145 : decode b_M_sort 145 = .ok (.aload_n 0, 1) := by decide +kernel
theorem d_M_sort_146 : decode b_M_sort 146 = .ok (.iload 5, 2) := by decide +kernel
theorem d_M_sort_148 : decode b_M_sort 148 = .ok (.invokevirtual 73, 3) := by decide +kernel
theorem d_M_sort_151 : decode b_M_sort 151 = .ok (.putfield 58, 3) := by decide +kernel
theorem d_M_sort_154 : decode b_M_sort 154 = .ok (.aload_n 0, 1) := by decide +kernel
theorem d_M_sort_155 : decode b_M_sort 155 = .ok (.iload_n 3, 1) := by decide +kernel
theorem d_M_sort_156 : decode b_M_sort 156 = .ok (.invokevirtual 77, 3) := by decide +kernel
theorem d_M_sort_159 : decode b_M_sort 159 = .ok (.ireturn, 1) := by decide +kernel
theorem d_M_select_0 : decode b_M_select 0 = .ok (.aload_n 0, 1) := by decide +kernel
theorem d_M_select_1 : decode b_M_select 1 = .ok (.iconst 1, 1) := by decide +kernel
theorem d_M_select_2 : decode b_M_select 2 = .ok (.iload_n 1, 1) := by decide +kernel
theorem d_M_select_3 : decode b_M_select 3 = .ok (.iload_n 1, 1) := by decide +kernel
theorem d_M_select_4 : decode b_M_select 4 = .ok (.iload 4, 2) := by decide +kernel
theorem d_M_select_6 : decode b_M_select 6 = .ok (.invokevirtual 65, 3) := by decide +kernel
theorem d_M_select_9 : decode b_M_select 9 = .ok (.istore 5, 2) := by decide +kernel
theorem d_M_select_11 : decode b_M_select 11 = .ok (.iload 5, 2) := by decide +kernel
theorem d_M_select_13 : decode b_M_select 13 = .ok (.ifCond .eq 6, 3) := by decide +kernel
theorem d_M_select_16 : decode b_M_select 16 = .ok (.iload 5, 2) := by decide +kernel
theorem d_M_select_18 : decode b_M_select 18 = .ok (.ireturn, 1) := by decide +kernel
theorem d_M_select_19 : decode b_M_select 19 = .ok (.iconst 0, 1) := by decide +kernel
theorem d_M_select_20 : decode b_M_select 20 = .ok (.istore 6, 2) := by decide +kernel
theorem d_M_select_22 : decode b_M_select 22 = .ok (.iload 6, 2) := by decide +kernel
theorem d_M_select_24 : decode b_M_select 24 = .ok (.aload_n 0, 1) := by decide +kernel
theorem d_M_select_25 : decode b_M_select 25 = .ok (.getfield 16, 3) := by decide +kernel
theorem d_M_select_28 : decode b_M_select 28 = .ok (.iload_n 1, 1) := by decide +kernel
theorem d_M_select_29 : decode b_M_select 29 = .ok (.iaload, 1) := by decide +kernel
theorem d_M_select_30 : decode b_M_select 30 = .ok (.if_icmp .ge 53, 3) := by decide +kernel
theorem d_M_select_33 : decode b_M_select 33 = .ok (.aload_n 0, 1) := by decide +kernel
theorem d_M_select_34 : decode b_M_select 34 = .ok (.getfield 19, 3) := by decide +kernel
theorem d_M_select_37 : decode b_M_select 37 = .ok (.bipush 60, 2) := by decide +kernel
theorem d_M_select_39 : decode b_M_select 39 = .ok (.iload_n 1, 1) := by decide +kernel
theorem d_M_select_40 : decode b_M_select 40 = .ok (.imul, 1) := by decide +kernel
theorem d_M_select_41 : decode b_M_select 41 = .ok (.iload 6, 2) := by decide +kernel
theorem d_M_select_43 : decode b_M_select 43 = .ok (.iadd, 1) := by decide +kernel
theorem d_M_select_44 : decode b_M_select 44 = .ok (.iaload, 1) := by decide +kernel
theorem d_M_select_45 : decode b_M_select 45 = .ok (.istore 7, 2) := by decide +kernel
theorem d_M_select_47 : decode b_M_select 47 = .ok (.iload_n 2, 1) := by decide +kernel
theorem d_M_select_48 : decode b_M_select 48 = .ok (.iload 7, 2) := by decide +kernel
theorem d_M_select_50 : decode b_M_select 50 = .ok (.if_icmp .gt 27, 3) := by decide +kernel
theorem d_M_select_53 : decode b_M_select 53 = .ok (.iload 7, 2) := by decide +kernel
theorem d_M_select_55 : decode b_M_select 55 = .ok (.iload_n 3, 1) := by decide +kernel
theorem d_M_select_56 : decode b_M_select 56 = .ok (.if_icmp .gt 21, 3) := by decide +kernel
theorem d_M_select_59 : decode b_M_select 59 = .ok (.aload_n 0, 1) := by decide +kernel
theorem d_M_select_60 : decode b_M_select 60 = .ok (.iload 7, 2) := by decide +kernel
theorem d_M_select_62 : decode b_M_select 62 = .ok (.aload_n 0, 1) := by decide +kernel
theorem d_M_select_63 : decode b_M_select 63 = .ok (.getfield 22, 3) := by decide +kernel
theorem d_M_select_66 : decode b_M_select 66 = .ok (.bipush 60, 2) := by decide +kernel
theorem d_M_select_68 : decode b_M_select 68 = .ok (.iload_n 1, 1) := by decide +kernel
theorem d_M_select_69 : decode b_M_select 69 = .ok (.imul, 1) := by decide +kernel
theorem d_M_select_70 : decode b_M_select 70 = .ok (.iload 6, 2) := by decide +kernel
theorem d_M_select_72 : decode b_M_select 72 = .ok (.iadd, 1) := by decide +kernel
theorem d_M_select_73 : decode b_M_select 73 = .ok (.iaload, 1) := by decide +kernel
theorem d_M_select_74 : decode b_M_select 74 = .ok (.invokevirtual 80, 3) := by decide +kernel
theorem d_M_select_77 : decode b_M_select 77 = .ok (.iinc 6 1, 3) := by decide +kernel
theorem d_M_select_80 : decode b_M_select 80 = .ok (.goto (-58), 3) := by decide +kernel
theorem d_M_select_83 : decode b_M_select 83 = .ok (.aload_n 0, 1) := by decide +kernel
theorem d_M_select_84 : decode b_M_select 84 = .ok (.aload_n 0, 1) := by decide +kernel
theorem d_M_select_85 : decode b_M_select 85 = .ok (.getfield 16, 3) := by decide +kernel
theorem d_M_select_88 : decode b_M_select 88 = .ok (.iload_n 1, 1) := by decide +kernel
theorem d_M_select_89 : decode b_M_select 89 = .ok (.iaload, 1) := by decide +kernel
theorem d_M_select_90 : decode b_M_select 90 = .ok (.invokestatic 38, 3) := by decide +kernel
theorem d_M_select_93 : decode b_M_select 93 = .ok (.aload_n 0, 1) := by decide +kernel
theorem d_M_select_94 : decode b_M_select 94 = .ok (.getfield 55, 3) := by decide +kernel
theorem d_M_select_97 : decode b_M_select 97 = .ok (.invokestatic 38, 3) := by decide +kernel
theorem d_M_select_100 : decode b_M_select 100 = .ok (.iadd, 1) := by decide +kernel
theorem d_M_select_101 : decode b_M_select 101 = .ok (.i2l, 1) := by decide +kernel
theorem d_M_select_102 : decode b_M_select 102 = .ok (.putfield 58, 3) := by decide +kernel
theorem d_M_select_105 : decode b_M_select 105 = .ok (.aload_n 0, 1) := by decide +kernel
theorem d_M_select_106 : decode b_M_select 106 = .ok (.iload 4, 2) := by decide +kernel
theorem d_M_select_108 : decode b_M_select 108 = .ok (.invokevirtual 77, 3) := by decide +kernel
theorem d_M_select_111 : decode b_M_select 111 = .ok (.ireturn, 1) := by decide +kernel
theorem d_M_times_0 : decode b_M_times 0 = .ok (.iconst 0, 1) := by decide +kernel
theorem d_M_times_1 : decode b_M_times 1 = .ok (.istore 4, 2) := by decide +kernel
theorem d_M_times_3 : decode b_M_times 3 = .ok (.iconst 0, 1) := by decide +kernel
theorem d_M_times_4 : decode b_M_times 4 = .ok (.istore 5, 2) := by decide +kernel
theorem d_M_times_6 : decode b_M_times 6 = .ok (.iload 5, 2) := by decide +kernel
theorem d_M_times_8 : decode b_M_times 8 = .ok (.aload_n 0, 1) := by decide +kernel
theorem d_M_times_9 : decode b_M_times 9 = .ok (.getfield 16, 3) := by decide +kernel
theorem d_M_times_12 : decode b_M_times 12 = .ok (.iload_n 1, 1) := by decide +kernel
theorem d_M_times_13 : decode b_M_times 13 = .ok (.iaload, 1) := by decide +kernel
theorem d_M_times_14 : decode b_M_times 14 = .ok (.if_icmp .ge 51, 3) := by decide +kernel
theorem d_M_times_17 : decode b_M_times 17 = .ok (.iload 4, 2) := by decide +kernel
theorem d_M_times_19 : decode b_M_times 19 = .ok (.aload_n 0, 1) := by decide +kernel
theorem d_M_times_20 : decode b_M_times 20 = .ok (.getfield 19, 3) := by decide +kernel
theorem d_M_times_23 : decode b_M_times 23 = .ok (.bipush 60, 2) := by decide +kernel
theorem d_M_times_25 : decode b_M_times 25 = .ok (.iload_n 1, 1) := by decide +kernel
theorem d_M_times_26 : decode b_M_times 26 = .ok (.imul, 1) := by decide +kernel
theorem d_M_times_27 : decode b_M_times 27 = .ok (.iload 5, 2) := by decide +kernel
theorem d_M_times_29 : decode b_M_times 29 = .ok (.iadd, 1) := by decide +kernel
theorem d_M_times_30 : decode b_M_times 30 = .ok (.iaload, 1) := by decide +kernel
theorem d_M_times_31 : decode b_M_times 31 = .ok (.iload_n 2, 1) := by decide +kernel
theorem d_M_times_32 : decode b_M_times 32 = .ok (.if_icmp .ne 23, 3) := by decide +kernel
theorem d_M_times_35 : decode b_M_times 35 = .ok (.aload_n 0, 1) := by decide +kernel
theorem d_M_times_36 : decode b_M_times 36 = .ok (.getfield 22, 3) := by decide +kernel
theorem d_M_times_39 : decode b_M_times 39 = .ok (.bipush 60, 2) := by decide +kernel
theorem d_M_times_41 : decode b_M_times 41 = .ok (.iload_n 1, 1) := by decide +kernel
theorem d_M_times_42 : decode b_M_times 42 = .ok (.imul, 1) := by decide +kernel
theorem d_M_times_43 : decode b_M_times 43 = .ok (.iload 5, 2) := by decide +kernel
theorem d_M_times_45 : decode b_M_times 45 = .ok (.iadd, 1) := by decide +kernel
theorem d_M_times_46 : decode b_M_times 46 = .ok (.iaload, 1) := by decide +kernel
theorem d_M_times_47 : decode b_M_times 47 = .ok (.iload_n 3, 1) := by decide +kernel
theorem d_M_times_48 : decode b_M_times 48 = .ok (.if_icmp .ne 7, 3) := by decide +kernel
theorem d_M_times_51 : decode b_M_times 51 = .ok (.iconst 1, 1) := by decide +kernel
theorem d_M_times_52 : decode b_M_times 52 = .ok (.goto 4, 3) := by decide +kernel
theorem d_M_times_55 : decode b_M_times 55 = .ok (.iconst 0, 1) := by decide +kernel
theorem d_M_times_56 : decode b_M_times 56 = .ok (.iadd, 1) := by decide +kernel
theorem d_M_times_57 : decode b_M_times 57 = .ok (.istore 4, 2) := by decide +kernel
theorem d_M_times_59 : decode b_M_times 59 = .ok (.iinc 5 1, 3) := by decide +kernel
theorem d_M_times_62 : decode b_M_times 62 = .ok (.goto (-56), 3) := by decide +kernel
theorem d_M_times_65 : decode b_M_times 65 = .ok (.iload 4, 2) := by decide +kernel
theorem d_M_times_67 : decode b_M_times 67 = .ok (.ireturn, 1) := by decide +kernel
theorem d_M_next_0 : decode b_M_next 0 = .ok (.iconst (-1), 1) := by decide +kernel
theorem d_M_next_1 : decode b_M_next 1 = .ok (.istore 4, 2) := by decide +kernel
theorem d_M_next_3 : decode b_M_next 3 = .ok (.iconst 0, 1) := by decide +kernel
theorem d_M_next_4 : decode b_M_next 4 = .ok (.istore 5, 2) := by decide +kernel
theorem d_M_next_6 : decode b_M_next 6 = .ok (.iload 5, 2) := by decide +kernel
theorem d_M_next_8 : decode b_M_next 8 = .ok (.iconst 2, 1) := by decide +kernel
theorem d_M_next_9 : decode b_M_next 9 = .ok (.if_icmp .ge 143, 3) := by decide +kernel
theorem d_M_next_12 : decode b_M_next 12 = .ok (.iload 5, 2) := by decide +kernel
theorem d_M_next_14 : decode b_M_next 14 = .ok (.ifCond .ne 7, 3) := by decide +kernel
theorem d_M_next_17 : decode b_M_next 17 = .ok (.iload_n 1, 1) := by decide +kernel
theorem d_M_next_18 : decode b_M_next 18 = .ok (.goto 4, 3) := by decide +kernel
theorem d_M_next_21 : decode b_M_next 21 = .ok (.iload_n 2, 1) := by decide +kernel
theorem d_M_next_22 : decode b_M_next 22 = .ok (.istore 6, 2) := by decide +kernel
theorem d_M_next_24 : decode b_M_next 24 = .ok (.bipush 60, 2) := by decide +kernel
theorem d_M_next_26 : decode b_M_next 26 = .ok (.iload 6, 2) := by decide +kernel
theorem d_M_next_28 : decode b_M_next 28 = .ok (.imul, 1) := by decide +kernel
theorem d_M_next_29 : decode b_M_next 29 = .ok (.istore 7, 2) := by decide +kernel
theorem d_M_next_31 : decode b_M_next 31 = .ok (.iload 7, 2) := by decide +kernel
theorem d_M_next_33 : decode b_M_next 33 = .ok (.bipush 60, 2) := by decide +kernel
theorem d_M_next_35 : decode b_M_next 35 = .ok (.iload 6, 2) := by decide +kernel
theorem d_M_next_37 : decode b_M_next 37 = .ok (.imul, 1) := by decide +kernel
theorem d_M_next_38 : decode b_M_next 38 = .ok (.aload_n 0, 1) := by decide +kernel
theorem d_M_next_39 : decode b_M_next 39 = .ok (.getfield 16, 3) := by decide +kernel
theorem d_M_next_42 : decode b_M_next 42 = .ok (.iload 6, 2) := by decide +kernel
theorem d_M_next_44 : decode b_M_next 44 = .ok (.iaload, 1) := by decide +kernel
theorem d_M_next_45 : decode b_M_next 45 = .ok (.iadd, 1) := by decide +kernel
theorem d_M_next_46 : decode b_M_next 46 = .ok (.if_icmp .ge 100, 3) := by decide +kernel
theorem d_M_next_49 : decode b_M_next 49 = .ok (.iload_n 3, 1) := by decide +kernel
theorem d_M_next_50 : decode b_M_next 50 = .ok (.ifCond .lt 35, 3) := by decide +kernel
theorem d_M_next_53 : decode b_M_next 53 = .ok (.aload_n 0, 1) := by decide +kernel
theorem d_M_next_54 : decode b_M_next 54 = .ok (.getfield 19, 3) := by decide +kernel
theorem d_M_next_57 : decode b_M_next 57 = .ok (.iload_n 3, 1) := by decide +kernel
theorem d_M_next_58 : decode b_M_next 58 = .ok (.iaload, 1) := by decide +kernel
theorem d_M_next_59 : decode b_M_next 59 = .ok (.aload_n 0, 1) := by decide +kernel
theorem d_M_next_60 : decode b_M_next 60 = .ok (.getfield 22, 3) := by decide +kernel
theorem d_M_next_63 : decode b_M_next 63 = .ok (.iload_n 3, 1) := by decide +kernel
theorem d_M_next_64 : decode b_M_next 64 = .ok (.iaload, 1) := by decide +kernel
theorem d_M_next_65 : decode b_M_next 65 = .ok (.aload_n 0, 1) := by decide +kernel
theorem d_M_next_66 : decode b_M_next 66 = .ok (.getfield 19, 3) := by decide +kernel
theorem d_M_next_69 : decode b_M_next 69 = .ok (.iload 7, 2) := by decide +kernel
theorem d_M_next_71 : decode b_M_next 71 = .ok (.iaload, 1) := by decide +kernel
theorem d_M_next_72 : decode b_M_next 72 = .ok (.aload_n 0, 1) := by decide +kernel
theorem d_M_next_73 : decode b_M_next 73 = .ok (.getfield 22, 3) := by decide +kernel
theorem d_M_next_76 : decode b_M_next 76 = .ok (.iload 7, 2) := by decide +kernel
theorem d_M_next_78 : decode b_M_next 78 = .ok (.iaload, 1) := by decide +kernel
theorem d_M_next_79 : decode b_M_next 79 = .ok (.invokestatic 61, 3) := by decide +kernel
theorem d_M_next_82 : decode b_M_next 82 = .ok (.ifCond .ge 7, 3) := by decide +kernel
theorem d_M_next_85 : decode b_M_next 85 = .ok (.iconst 1, 1) := by decide +kernel
theorem d_M_next_86 : decode b_M_next 86 = .ok (.goto 4, 3) := by decide +kernel
theorem d_M_next_89 : decode b_M_next 89 = .ok (.iconst 0, 1) := by decide +kernel
theorem d_M_next_90 : decode b_M_next 90 = .ok (.istore 8, 2) := by decide +kernel
theorem d_M_next_92 : decode b_M_next 92 = .ok (.iload 8, 2) := by decide +kernel
theorem d_M_next_94 : decode b_M_next 94 = .ok (.ifCond .eq 46, 3) := by decide +kernel
theorem d_M_next_97 : decode b_M_next 97 = .ok (.iload 4, 2) := by decide +kernel
theorem d_M_next_99 : decode b_M_next 99 = .ok (.ifCond .lt 37, 3) := by decide +kernel
theorem d_M_next_102 : decode b_M_next 102 = .ok (.aload_n 0, 1) := by decide +kernel
theorem d_M_next_103 : decode b_M_next 103 = .ok (.getfield 19, 3) := by decide +kernel
theorem d_M_next_106 : decode b_M_next 106 = .ok (.iload 7, 2) := by decide +kernel
theorem d_M_next_108 : decode b_M_next 108 = .ok (.iaload, 1) := by decide +kernel
theorem d_M_next_109 : decode b_M_next 109 = .ok (.aload_n 0, 1) := by decide +kernel
theorem d_M_next_110 : decode b_M_next 110 = .ok (.getfield 22, 3) := by decide +kernel
theorem d_M_next_113 : decode b_M_next 113 = .ok (.iload 7, 2) := by decide +kernel
theorem d_M_next_115 : decode b_M_next 115 = .ok (.iaload, 1) := by decide +kernel
theorem d_M_next_116 : decode b_M_next 116 = .ok (.aload_n 0, 1) := by decide +kernel
theorem d_M_next_117 : decode b_M_next 117 = .ok (.getfield 19, 3) := by decide +kernel
theorem d_M_next_120 : decode b_M_next 120 = .ok (.iload 4, 2) := by decide +kernel
theorem d_M_next_122 : decode b_M_next 122 = .ok (.iaload, 1) := by decide +kernel
theorem d_M_next_123 : decode b_M_next 123 = .ok (.aload_n 0, 1) := by decide +kernel
theorem d_M_next_124 : decode b_M_next 124 = .ok (.getfield 22, 3) := by decide +kernel
theorem d_M_next_127 : decode b_M_next 127 = .ok (.iload 4, 2) := by decide +kernel
theorem d_M_next_129 : decode b_M_next 129 = .ok (.iaload, 1) := by decide +kernel
theorem d_M_next_130 : decode b_M_next 130 = .ok (.invokestatic 61, 3) := by decide +kernel
theorem d_M_next_133 : decode b_M_next 133 = .ok (.ifCond .ge 7, 3) := by decide +kernel
theorem d_M_next_136 : decode b_M_next 136 = .ok (.iload 7, 2) := by decide +kernel
theorem d_M_next_138 : decode b_M_next 138 = .ok (.istore 4, 2) := by decide +kernel
theorem d_M_next_140 : decode b_M_next 140 = .ok (.iinc 7 1, 3) := by decide +kernel
theorem d_M_next_143 : decode b_M_next 143 = .ok (.goto (-112), 3) := by decide +kernel
theorem d_M_next_146 : decode b_M_next 146 = .ok (.iinc 5 1, 3) := by decide +kernel
theorem d_M_next_149 : decode b_M_next 149 = .ok (.goto (-143), 3) := by decide +kernel
theorem d_M_next_152 : decode b_M_next 152 = .ok (.iload 4, 2) := by decide +kernel
theorem d_M_next_154 : decode b_M_next 154 = .ok (.ireturn, 1) := by decide +kernel
