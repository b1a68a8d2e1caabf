theorem d_X_init_0 : decode b_X_init 0 = .ok (.aload_n 0, 1) := by decide +kernel
theorem d_X_init_1 : decode b_X_init 1 = .ok (.invokespecial 1, 3) := by decide +kernel
theorem d_X_init_4 : decode b_X_init 4 = .ok (.aload_n 0, 1) := by decide +kernel
theorem d_X_init_5 : decode b_X_init 5 = .ok (.iload_n 1, 1) := by decide +kernel
theorem d_X_init_6 : decode b_X_init 6 = .ok (.iconst 3, 1) := by decide +kernel
theorem d_X_init_7 : decode b_X_init 7 = .ok (.invokestatic 9, 3) := by decide +kernel
theorem d_X_init_10 : decode b_X_init 10 = .ok (.bipush 6, 2) := by decide +kernel
theorem d_X_init_12 : decode b_X_init 12 = .ok (.invokestatic 15, 3) := by decide +kernel
theorem d_X_init_15 : decode b_X_init 15 = .ok (.putfield 18, 3) := by decide +kernel
theorem d_X_init_18 : decode b_X_init 18 = .ok (.aload_n 0, 1) := by decide +kernel
theorem d_X_init_19 : decode b_X_init 19 = .ok (.bipush 8, 2) := by decide +kernel
theorem d_X_init_21 : decode b_X_init 21 = .ok (.anewarray 22, 3) := by decide +kernel
theorem d_X_init_24 : decode b_X_init 24 = .ok (.putfield 24, 3) := by decide +kernel
theorem d_X_init_27 : decode b_X_init 27 = .ok (.iconst 0, 1) := by decide +kernel
theorem d_X_init_28 : decode b_X_init 28 = .ok (.istore_n 2, 1) := by decide +kernel
theorem d_X_init_29 : decode b_X_init 29 = .ok (.iload_n 2, 1) := by decide +kernel
theorem d_X_init_30 : decode b_X_init 30 = .ok (.bipush 8, 2) := by decide +kernel
theorem d_X_init_32 : decode b_X_init 32 = .ok (.if_icmp .ge 22, 3) := by decide +kernel
theorem d_X_init_35 : decode b_X_init 35 = .ok (.aload_n 0, 1) := by decide +kernel
theorem d_X_init_36 : decode b_X_init 36 = .ok (.getfield 24, 3) := by decide +kernel
theorem d_X_init_39 : decode b_X_init 39 = .ok (.iload_n 2, 1) := by decide +kernel
theorem d_X_init_40 : decode b_X_init 40 = .ok (.new 22, 3) := by decide +kernel
theorem d_X_init_43 : decode b_X_init 43 = .ok (.dup, 1) := by decide +kernel
theorem d_X_init_44 : decode b_X_init 44 = .ok (.invokespecial 28, 3) := by decide +kernel
theorem d_X_init_47 : decode b_X_init 47 = .ok (.aastore, 1) := by decide +kernel
theorem d_X_init_48 : decode b_X_init 48 = .ok (.iinc 2 1, 3) := by decide +kernel
theorem d_X_init_51 : decode b_X_init 51 = .ok (.goto (-22), 3) := by decide +kernel
theorem d_X_init_54 : decode b_X_init 54 = .ok (.aload_n 0, 1) := by decide +kernel
theorem d_X_init_55 : decode b_X_init 55 = .ok (.bipush 8, 2) := by decide +kernel
theorem d_X_init_57 : decode b_X_init 57 = .ok (.newarray .boolean, 2) := by decide +kernel
theorem d_X_init_59 : decode b_X_init 59 = .ok (.putfield 29, 3) := by decide +kernel
theorem d_X_init_62 : decode b_X_init 62 = .ok (.aload_n 0, 1) := by decide +kernel
theorem d_X_init_63 : decode b_X_init 63 = .ok (.new 22, 3) := by decide +kernel
theorem d_X_init_66 : decode b_X_init 66 = .ok (.dup, 1) := by decide +kernel
theorem d_X_init_67 : decode b_X_init 67 = .ok (.invokespecial 28, 3) := by decide +kernel
theorem d_X_init_70 : decode b_X_init 70 = .ok (.putfield 33, 3) := by decide +kernel
theorem d_X_init_73 : decode b_X_init 73 = .ok (.aload_n 0, 1) := by decide +kernel
theorem d_X_init_74 : decode b_X_init 74 = .ok (.new 22, 3) := by decide +kernel
theorem d_X_init_77 : decode b_X_init 77 = .ok (.dup, 1) := by decide +kernel
theorem d_X_init_78 : decode b_X_init 78 = .ok (.invokespecial 28, 3) := by decide +kernel
theorem d_X_init_81 : decode b_X_init 81 = .ok (.putfield 37, 3) := by decide +kernel
theorem d_X_init_84 : decode b_X_init 84 = .ok (.aload_n 0, 1) := by decide +kernel
theorem d_X_init_85 : decode b_X_init 85 = .ok (.new 22, 3) := by decide +kernel
theorem d_X_init_88 : decode b_X_init 88 = .ok (.dup, 1) := by decide +kernel
theorem d_X_init_89 : decode b_X_init 89 = .ok (.invokespecial 28, 3) := by decide +kernel
theorem d_X_init_92 : decode b_X_init 92 = .ok (.putfield 40, 3) := by decide +kernel
theorem d_X_init_95 : decode b_X_init 95 = .ok (.aload_n 0, 1) := by decide +kernel
theorem d_X_init_96 : decode b_X_init 96 = .ok (.new 22, 3) := by decide +kernel
theorem d_X_init_99 : decode b_X_init 99 = .ok (.dup, 1) := by decide +kernel
theorem d_X_init_100 : decode b_X_init 100 = .ok (.invokespecial 28, 3) := by decide +kernel
theorem d_X_init_103 : decode b_X_init 103 = .ok (.putfield 43, 3) := by decide +kernel
theorem d_X_init_106 : decode b_X_init 106 = .ok (.aload_n 0, 1) := by decide +kernel
theorem d_X_init_107 : decode b_X_init 107 = .ok (.lconst 0, 1) := by decide +kernel
theorem d_X_init_108 : decode b_X_init 108 = .ok (.putfield 46, 3) := by decide +kernel
theorem d_X_init_111 : decode b_X_init 111 = .ok (.return_, 1) := by decide +kernel
theorem d_X_put_0 : decode b_X_put 0 = .ok (.aload_n 0, 1) := by decide +kernel
theorem d_X_put_1 : decode b_X_put 1 = .ok (.getfield 33, 3) := by decide +kernel
theorem d_X_put_4 : decode b_X_put 4 = .ok (.getfield 50, 3) := by decide +kernel
theorem d_X_put_7 : decode b_X_put 7 = .ok (.bipush 60, 2) := by decide +kernel
theorem d_X_put_9 : decode b_X_put 9 = .ok (.if_icmp .lt 5, 3) := by decide +kernel
theorem d_X_put_12 : decode b_X_put 12 = .ok (.iconst 0, 1) := by decide +kernel
theorem d_X_put_13 : decode b_X_put 13 = .ok (.ireturn, 1) := by decide +kernel
theorem d_X_put_14 : decode b_X_put 14 = .ok (.aload_n 0, 1) := by decide +kernel
theorem d_X_put_15 : decode b_X_put 15 = .ok (.getfield 33, 3) := by decide +kernel
theorem d_X_put_18 : decode b_X_put 18 = .ok (.iload_n 1, 1) := by decide +kernel
theorem d_X_put_19 : decode b_X_put 19 = .ok (.iload_n 2, 1) := by decide +kernel
theorem d_X_put_20 : decode b_X_put 20 = .ok (.invokevirtual 53, 3) := by decide +kernel
theorem d_X_put_23 : decode b_X_put 23 = .ok (.iconst 1, 1) := by decide +kernel
theorem d_X_put_24 : decode b_X_put 24 = .ok (.ireturn, 1) := by decide +kernel
theorem d_X_store_0 : decode b_X_store 0 = .ok (.iload_n 1, 1) := by decide +kernel
theorem d_X_store_1 : decode b_X_store 1 = .ok (.invokestatic 57, 3) := by decide +kernel
theorem d_X_store_4 : decode b_X_store 4 = .ok (.ifCond .ne 5, 3) := by decide +kernel
theorem d_X_store_7 : decode b_X_store 7 = .ok (.iconst (-1), 1) := by decide +kernel
theorem d_X_store_8 : decode b_X_store 8 = .ok (.ireturn, 1) := by decide +kernel
theorem d_X_store_9 : decode b_X_store 9 = .ok (.aload_n 0, 1) := by decide +kernel
theorem d_X_store_10 : decode b_X_store 10 = .ok (.getfield 29, 3) := by decide +kernel
theorem d_X_store_13 : decode b_X_store 13 = .ok (.iload_n 1, 1) := by decide +kernel
theorem d_X_store_14 : decode b_X_store 14 = .ok (.baload, 1) := by decide +kernel
theorem d_X_store_15 : decode b_X_store 15 = .ok (.ifCond .eq 6, 3) := by decide +kernel
theorem d_X_store_18 : decode b_X_store 18 = .ok (.bipush (-3), 2) := by decide +kernel
theorem d_X_store_20 : decode b_X_store 20 = .ok (.ireturn, 1) := by decide +kernel
theorem d_X_store_21 : decode b_X_store 21 = .ok (.aload_n 0, 1) := by decide +kernel
theorem d_X_store_22 : decode b_X_store 22 = .ok (.getfield 24, 3) := by decide +kernel
theorem d_X_store_25 : decode b_X_store 25 = .ok (.iload_n 1, 1) := by decide +kernel
theorem d_X_store_26 : decode b_X_store 26 = .ok (.aaload, 1) := by decide +kernel
theorem d_X_store_27 : decode b_X_store 27 = .ok (.aload_n 0, 1) := by decide +kernel
theorem d_X_store_28 : decode b_X_store 28 = .ok (.getfield 33, 3) := by decide +kernel
theorem d_X_store_31 : decode b_X_store 31 = .ok (.invokevirtual 61, 3) := by decide +kernel
theorem d_X_store_34 : decode b_X_store 34 = .ok (.aload_n 0, 1) := by decide +kernel
theorem d_X_store_35 : decode b_X_store 35 = .ok (.getfield 33, 3) := by decide +kernel
theorem d_X_store_38 : decode b_X_store 38 = .ok (.invokevirtual 65, 3) := by decide +kernel
theorem d_X_store_41 : decode b_X_store 41 = .ok (.aload_n 0, 1) := by decide +kernel
theorem d_X_store_42 : decode b_X_store 42 = .ok (.iload_n 1, 1) := by decide +kernel
theorem d_X_store_43 : decode b_X_store 43 = .ok (.aload_n 0, 1) := by decide +kernel
theorem d_X_store_44 : decode b_X_store 44 = .ok (.getfield 24, 3) := by decide +kernel
theorem d_X_store_47 : decode b_X_store 47 = .ok (.iload_n 1, 1) := by decide +kernel
theorem d_X_store_48 : decode b_X_store 48 = .ok (.aaload, 1) := by decide +kernel
theorem d_X_store_49 : decode b_X_store 49 = .ok (.getfield 50, 3) := by decide +kernel
theorem d_X_store_52 : decode b_X_store 52 = .ok (.invokestatic 68, 3) := by decide +kernel
theorem d_X_store_55 : decode b_X_store 55 = .ok (.i2l, 1) := by decide +kernel
theorem d_X_store_56 : decode b_X_store 56 = .ok (.invokevirtual 72, 3) := by decide +kernel
theorem d_X_store_59 : decode b_X_store 59 = .ok (.ireturn, 1) := by decide +kernel
theorem d_X_drop_0 : decode b_X_drop 0 = .ok (.iload_n 1, 1) := by decide +kernel
theorem d_X_drop_1 : decode b_X_drop 1 = .ok (.invokestatic 57, 3) := by decide +kernel
theorem d_X_drop_4 : decode b_X_drop 4 = .ok (.ifCond .ne 5, 3) := by decide +kernel
theorem d_X_drop_7 : decode b_X_drop 7 = .ok (.iconst (-1), 1) := by decide +kernel
theorem d_X_drop_8 : decode b_X_drop 8 = .ok (.ireturn, 1) := by decide +kernel
theorem d_X_drop_9 : decode b_X_drop 9 = .ok (.aload_n 0, 1) := by decide +kernel
theorem d_X_drop_10 : decode b_X_drop 10 = .ok (.getfield 29, 3) := by decide +kernel
theorem d_X_drop_13 : decode b_X_drop 13 = .ok (.iload_n 1, 1) := by decide +kernel
theorem d_X_drop_14 : decode b_X_drop 14 = .ok (.baload, 1) := by decide +kernel
theorem d_X_drop_15 : decode b_X_drop 15 = .ok (.ifCond .ne 6, 3) := by decide +kernel
theorem d_X_drop_18 : decode b_X_drop 18 = .ok (.bipush (-2), 2) := by decide +kernel
theorem d_X_drop_20 : decode b_X_drop 20 = .ok (.ireturn, 1) := by decide +kernel
theorem d_X_drop_21 : decode b_X_drop 21 = .ok (.aload_n 0, 1) := by decide +kernel
theorem d_X_drop_22 : decode b_X_drop 22 = .ok (.getfield 29, 3) := by decide +kernel
theorem d_X_drop_25 : decode b_X_drop 25 = .ok (.iload_n 1, 1) := by decide +kernel
theorem d_X_drop_26 : decode b_X_drop 26 = .ok (.iconst 0, 1) := by decide +kernel
theorem d_X_drop_27 : decode b_X_drop 27 = .ok (.bastore, 1) := by decide +kernel
theorem d_X_drop_28 : decode b_X_drop 28 = .ok (.aload_n 0, 1) := by decide +kernel
theorem d_X_drop_29 : decode b_X_drop 29 = .ok (.getfield 24, 3) := by decide +kernel
theorem d_X_drop_32 : decode b_X_drop 32 = .ok (.iload_n 1, 1) := by decide +kernel
theorem d_X_drop_33 : decode b_X_drop 33 = .ok (.aaload, 1) := by decide +kernel
theorem d_X_drop_34 : decode b_X_drop 34 = .ok (.getfield 50, 3) := by decide +kernel
theorem d_X_drop_37 : decode b_X_drop 37 = .ok (.ireturn, 1) := by decide +kernel
theorem d_X_rows_0 : decode b_X_rows 0 = .ok (.aload_n 0, 1) := by decide +kernel
theorem d_X_rows_1 : decode b_X_rows 1 = .ok (.iload_n 1, 1) := by decide +kernel
theorem d_X_rows_2 : decode b_X_rows 2 = .ok (.invokevirtual 76, 3) := by decide +kernel
theorem d_X_rows_5 : decode b_X_rows 5 = .ok (.ifCond .eq 15, 3) := by decide +kernel
theorem d_X_rows_8 : decode b_X_rows 8 = .ok (.aload_n 0, 1) := by decide +kernel
theorem d_X_rows_9 : decode b_X_rows 9 = .ok (.getfield 24, 3) := by decide +kernel
theorem d_X_rows_12 : decode b_X_rows 12 = .ok (.iload_n 1, 1) := by decide +kernel
theorem d_X_rows_13 : decode b_X_rows 13 = .ok (.aaload, 1) := by decide +kernel
theorem d_X_rows_14 : decode b_X_rows 14 = .ok (.getfield 50, 3) := by decide +kernel
theorem d_X_rows_17 : decode b_X_rows 17 = .ok (.goto 4, 3) := by decide +kernel
theorem d_X_rows_20 : decode b_X_rows 20 = .ok (.iconst (-1), 1) := by decide +kernel
theorem d_X_rows_21 : decode b_X_rows 21 = .ok (.ireturn, 1) := by decide +kernel
theorem d_X_key_0 : decode b_X_key 0 = .ok (.aload_n 0, 1) := by decide +kernel
theorem d_X_key_1 : decode b_X_key 1 = .ok (.iload_n 1, 1) := by decide +kernel
theorem d_X_key_2 : decode b_X_key 2 = .ok (.iload_n 2, 1) := by decide +kernel
theorem d_X_key_3 : decode b_X_key 3 = .ok (.invokevirtual 79, 3) := by decide +kernel
theorem d_X_key_6 : decode b_X_key 6 = .ok (.ifCond .eq 17, 3) := by decide +kernel
theorem d_X_key_9 : decode b_X_key 9 = .ok (.aload_n 0, 1) := by decide +kernel
theorem d_X_key_10 : decode b_X_key 10 = .ok (.getfield 24, 3) := by decide +kernel
theorem d_X_key_13 : decode b_X_key 13 = .ok (.iload_n 1, 1) := by decide +kernel
theorem d_X_key_14 : decode b_X_key 14 = .ok (.aaload, 1) := by decide +kernel
theorem d_X_key_15 : decode b_X_key 15 = .ok (.getfield 83, 3) := by decide +kernel
theorem d_X_key_18 : decode b_X_key 18 = .ok (.iload_n 2, 1) := by decide +kernel
theorem d_X_key_19 : decode b_X_key 19 = .ok (.iaload, 1) := by decide +kernel
theorem d_X_key_20 : decode b_X_key 20 = .ok (.goto 4, 3) := by decide +kernel
theorem d_X_key_23 : decode b_X_key 23 = .ok (.iconst 0, 1) := by decide +kernel
theorem d_X_key_24 : decode b_X_key 24 = .ok (.ireturn, 1) := by decide +kernel
theorem d_X_value_0 : decode b_X_value 0 = .ok (.aload_n 0, 1) := by decide +kernel
theorem d_X_value_1 : decode b_X_value 1 = .ok (.iload_n 1, 1) := by decide +kernel
theorem d_X_value_2 : decode b_X_value 2 = .ok (.iload_n 2, 1) := by decide +kernel
theorem d_X_value_3 : decode b_X_value 3 = .ok (.invokevirtual 79, 3) := by decide +kernel
theorem d_X_value_6 : decode b_X_value 6 = .ok (.ifCond .eq 17, 3) := by decide +kernel
theorem d_X_value_9 : decode b_X_value 9 = .ok (.aload_n 0, 1) := by decide +kernel
theorem d_X_value_10 : decode b_X_value 10 = .ok (.getfield 24, 3) := by decide +kernel
theorem d_X_value_13 : decode b_X_value 13 = .ok (.iload_n 1, 1) := by decide +kernel
theorem d_X_value_14 : decode b_X_value 14 = .ok (.aaload, 1) := by decide +kernel
theorem d_X_value_15 : decode b_X_value 15 = .ok (.getfield 87, 3) := by decide +kernel
theorem d_X_value_18 : decode b_X_value 18 = .ok (.iload_n 2, 1) := by decide +kernel
theorem d_X_value_19 : decode b_X_value 19 = .ok (.iaload, 1) := by decide +kernel
theorem d_X_value_20 : decode b_X_value 20 = .ok (.goto 4, 3) := by decide +kernel
theorem d_X_value_23 : decode b_X_value 23 = .ok (.iconst 0, 1) := by decide +kernel
theorem d_X_value_24 : decode b_X_value 24 = .ok (.ireturn, 1) := by decide +kernel
theorem d_X_sort_0 : decode b_X_sort 0 = .ok (.iload_n 2, 1) := by decide +kernel
theorem d_X_sort_1 : decode b_X_sort 1 = .ok (.ifCond .lt 8, 3) := by decide +kernel
theorem d_X_sort_4 : decode b_X_sort 4 = .ok (.iload_n 2, 1) := by decide +kernel
theorem d_X_sort_5 : decode b_X_sort 5 = .ok (.iconst 2, 1) := by decide +kernel
theorem d_X_sort_6 : decode b_X_sort 6 = .ok (.if_icmp .le 5, 3) := by decide +kernel
theorem d_X_sort_9 : decode b_X_sort 9 = .ok (.iconst (-1), 1) := by decide +kernel
theorem d_X_sort_10 : decode b_X_sort 10 = .ok (.ireturn, 1) := by decide +kernel
theorem d_X_sort_11 : decode b_X_sort 11 = .ok (.aload_n 0, 1) := by decide +kernel
theorem d_X_sort_12 : decode b_X_sort 12 = .ok (.iload_n 1, 1) := by decide +kernel
theorem d_X_sort_13 : decode b_X_sort 13 = .ok (.iload_n 1, 1) := by decide +kernel
theorem d_X_sort_14 : decode b_X_sort 14 = .ok (.iload_n 3, 1) := by decide +kernel
theorem d_X_sort_15 : decode b_X_sort 15 = .ok (.invokevirtual 90, 3) := by decide +kernel
theorem d_X_sort_18 : decode b_X_sort 18 = .ok (.istore 4, 2) := by decide +kernel
theorem d_X_sort_20 : decode b_X_sort 20 = .ok (.iload 4, 2) := by decide +kernel
theorem d_X_sort_22 : decode b_X_sort 22 = .ok (.ifCond .eq 6, 3) := by decide +kernel
theorem d_X_sort_25 : decode b_X_sort 25 = .ok (.iload 4, 2) := by decide +kernel
theorem d_X_sort_27 : decode b_X_sort 27 = .ok (.ireturn, 1) := by decide +kernel
theorem d_X_sort_28 : decode b_X_sort 28 = .ok (.aload_n 0, 1) := by decide +kernel
theorem d_X_sort_29 : decode b_X_sort 29 = .ok (.getfield 24, 3) := by decide +kernel
theorem d_X_sort_32 : decode b_X_sort 32 = .ok (.iload_n 3, 1) := by decide +kernel
theorem d_X_sort_33 : decode b_X_sort 33 = .ok (.aaload, 1) := by decide +kernel
theorem d_X_sort_34 : decode b_X_sort 34 = .ok (.astore 5, 2) := by decide +kernel
theorem d_X_sort_36 : decode b_X_sort 36 = .ok (.aload 5, 2) := by decide +kernel
theorem d_X_sort_38 : decode b_X_sort 38 = .ok (.aload_n 0, 1) := by decide +kernel
theorem d_X_sort_39 : decode b_X_sort 39 = .ok (.getfield 24, 3) := by decide +kernel
theorem d_X_sort_42 : decode b_X_sort 42 = .ok (.iload_n 1, 1) := by decide +kernel
theorem d_X_sort_43 : decode b_X_sort 43 = .ok (.aaload, 1) := by decide +kernel
theorem d_X_sort_44 : decode b_X_sort 44 = .ok (.invokevirtual 61, 3) := by decide +kernel
theorem d_X_sort_47 : decode b_X_sort 47 = .ok (.aload 5, 2) := by decide +kernel
theorem d_X_sort_49 : decode b_X_sort 49 = .ok (.iload_n 2, 1) := by decide +kernel
theorem d_X_sort_50 : decode b_X_sort 50 = .ok (.invokevirtual 94, 3) := by decide +kernel
theorem d_X_sort_53 : decode b_X_sort 53 = .ok (.aload_n 0, 1) := by decide +kernel
theorem d_X_sort_54 : decode b_X_sort 54 = .ok (.iload_n 3, 1) := by decide +kernel
theorem d_X_sort_55 : decode b_X_sort 55 = .ok (.aload_n 0, 1) := by decide +kernel
theorem d_X_sort_56 : decode b_X_sort 56 = .ok (.aload 5, 2) := by decide +kernel
theorem d_X_sort_58 : decode b_X_sort 58 = .ok (.getfield 50, 3) := by decide +kernel
theorem d_X_sort_61 : decode b_X_sort 61 = .ok (.invokevirtual 98, 3) := by decide +kernel
theorem d_X_sort_64 : decode b_X_sort 64 = .ok (.invokevirtual 72, 3) := by decide +kernel
theorem d_X_sort_67 : decode b_X_sort 67 = .ok (.ireturn, 1) := by decide +kernel
theorem d_X_select_0 : decode b_X_select 0 = .ok (.aload_n 0, 1) := by decide +kernel
theorem d_X_select_1 : decode b_X_select 1 = .ok (.iload_n 1, 1) := by decide +kernel
theorem d_X_select_2 : decode b_X_select 2 = .ok (.iload_n 1, 1) := by decide +kernel
theorem d_X_select_3 : decode b_X_select 3 = .ok (.iload 4, 2) := by decide +kernel
theorem d_X_select_5 : decode b_X_select 5 = .ok (.invokevirtual 90, 3) := by decide +kernel
theorem d_X_select_8 : decode b_X_select 8 = .ok (.istore 5, 2) := by decide +kernel
theorem d_X_select_10 : decode b_X_select 10 = .ok (.iload 5, 2) := by decide +kernel
theorem d_X_select_12 : decode b_X_select 12 = .ok (.ifCond .eq 6, 3) := by decide +kernel
theorem d_X_select_15 : decode b_X_select 15 = .ok (.iload 5, 2) := by decide +kernel
theorem d_X_select_17 : decode b_X_select 17 = .ok (.ireturn, 1) := by decide +kernel
theorem d_X_select_18 : decode b_X_select 18 = .ok (.aload_n 0, 1) := by decide +kernel
theorem d_X_select_19 : decode b_X_select 19 = .ok (.getfield 24, 3) := by decide +kernel
theorem d_X_select_22 : decode b_X_select 22 = .ok (.iload_n 1, 1) := by decide +kernel
theorem d_X_select_23 : decode b_X_select 23 = .ok (.aaload, 1) := by decide +kernel
theorem d_X_select_24 : decode b_X_select 24 = .ok (.astore 6, 2) := by decide +kernel
theorem d_X_select_26 : decode b_X_select 26 = .ok (.aload_n 0, 1) := by decide +kernel
theorem d_X_select_27 : decode b_X_select 27 = .ok (.getfield 24, 3) := by decide +kernel
theorem d_X_select_30 : decode b_X_select 30 = .ok (.iload 4, 2) := by decide +kernel
theorem d_X_select_32 : decode b_X_select 32 = .ok (.aaload, 1) := by decide +kernel
theorem d_X_select_33 : decode b_X_select 33 = .ok (.astore 7, 2) := by decide +kernel
theorem d_X_select_35 : decode b_X_select 35 = .ok (.aload 7, 2) := by decide +kernel
theorem d_X_select_37 : decode b_X_select 37 = .ok (.invokevirtual 65, 3) := by decide +kernel
theorem d_X_select_40 : decode b_X_select 40 = .ok (.iconst 0, 1) := by decide +kernel
theorem d_X_select_41 : decode b_X_select 41 = .ok (.istore 8, 2) := by decide +kernel
theorem d_X_select_43 : decode b_X_select 43 = .ok (.iload 8, 2) := by decide +kernel
theorem d_X_select_45 : decode b_X_select 45 = .ok (.aload 6, 2) := by decide +kernel
theorem d_X_select_47 : decode b_X_select 47 = .ok (.getfield 50, 3) := by decide +kernel
theorem d_X_select_50 : decode b_X_select 50 = .ok (.if_icmp .ge 54, 3) := by decide +kernel
theorem d_X_select_53 : decode b_X_select 53 = .ok (.iload_n 2, 1) := by decide +kernel
theorem d_X_select_54 : decode b_X_select 54 = .ok (.aload 6, 2) := by decide +kernel
theorem d_X_select_56 : decode b_X_select 56 = .ok (.getfield 83, 3) := by decide +kernel
theorem d_X_select_59 : decode b_X_select 59 = .ok (.iload 8, 2) := by decide +kernel
theorem d_X_select_61 : decode b_X_select 61 = .ok (.iaload, 1) := by decide +kernel
theorem d_X_select_62 : decode b_X_select 62 = .ok (.if_icmp .gt 36, 3) := by decide +kernel
theorem d_X_select_65 : decode b_X_select 65 = .ok (.aload 6, 2) := by decide +kernel
theorem d_X_select_67 : decode b_X_select 67 = .ok (.getfield 83, 3) := by decide +kernel
theorem d_X_select_70 : decode b_X_select 70 = .ok (.iload 8, 2) := by decide +kernel
theorem d_X_select_72 : decode b_X_select 72 = .ok (.iaload, 1) := by decide +kernel
theorem d_X_select_73 : decode b_X_select 73 = .ok (.iload_n 3, 1) := by decide +kernel
theorem d_X_select_74 : decode b_X_select 74 = .ok (.if_icmp .gt 24, 3) := by decide +kernel
theorem d_X_select_77 : decode b_X_select 77 = .ok (.aload 7, 2) := by decide +kernel
theorem d_X_select_79 : decode b_X_select 79 = .ok (.aload 6, 2) := by decide +kernel
theorem d_X_select_81 : decode b_X_select 81 = .ok (.getfield 83, 3) := by decide +kernel
theorem d_X_select_84 : decode b_X_select 84 = .ok (.iload 8, 2) := by decide +kernel
theorem d_X_select_86 : decode b_X_select 86 = .ok (.iaload, 1) := by decide +kernel
theorem d_X_select_87 : decode b_X_select 87 = .ok (.aload 6, 2) := by decide +kernel
theorem d_X_select_89 : decode b_X_select 89 = .ok (.getfield 87, 3) := by decide +kernel
theorem d_X_select_92 : decode b_X_select 92 = .ok (.iload 8, 2) := by decide +kernel
theorem d_X_select_94 : decode b_X_select 94 = .ok (.iaload, 1) := by decide +kernel
theorem d_X_select_95 : decode b_X_select 95 = .ok (.invokevirtual 53, 3) := by decide +kernel
theorem d_X_select_98 : decode b_X_select 98 = .ok (.iinc 8 1, 3) := by decide +kernel
theorem d_X_select_101 : decode b_X_select 101 = .ok (.goto (-58), 3) := by decide +kernel
theorem d_X_select_104 : decode b_X_select 104 = .ok (.aload_n 0, 1) := by decide +kernel
theorem d_X_select_105 : decode b_X_select 105 = .ok (.iload 4, 2) := by decide +kernel
theorem d_X_select_107 : decode b_X_select 107 = .ok (.aload 6, 2) := by decide +kernel
theorem d_X_select_109 : decode b_X_select 109 = .ok (.getfield 50, 3) := by decide +kernel
theorem d_X_select_112 : decode b_X_select 112 = .ok (.invokestatic 68, 3) := by decide +kernel
theorem d_X_select_115 : decode b_X_select 115 = .ok (.aload 7, 2) := by decide +kernel
theorem d_X_select_117 : decode b_X_select 117 = .ok (.getfield 50, 3) := by decide +kernel
theorem d_X_select_120 : decode b_X_select 120 = .ok (.invokestatic 68, 3) := by decide +kernel
theorem d_X_select_123 : decode b_X_select 123 = .ok (.iadd, 1) := by decide +kernel
theorem d_X_select_124 : decode b_X_select 124 = .ok (.i2l, 1) := by decide +kernel
theorem d_X_select_125 : decode b_X_select 125 = .ok (.invokevirtual 72, 3) := by decide +kernel
theorem d_X_select_128 : decode b_X_select 128 = .ok (.ireturn, 1) := by decide +kernel
theorem d_X_distinct_0 : decode b_X_distinct 0 = .ok (.aload_n 0, 1) := by decide +kernel
theorem d_X_distinct_1 : decode b_X_distinct 1 = .ok (.iload_n 1, 1) := by decide +kernel
theorem d_X_distinct_2 : decode b_X_distinct 2 = .ok (.iload_n 1, 1) := by decide +kernel
theorem d_X_distinct_3 : decode b_X_distinct 3 = .ok (.iload_n 2, 1) := by decide +kernel
theorem d_X_distinct_4 : decode b_X_distinct 4 = .ok (.invokevirtual 90, 3) := by decide +kernel
theorem d_X_distinct_7 : decode b_X_distinct 7 = .ok (.istore_n 3, 1) := by decide +kernel
theorem d_X_distinct_8 : decode b_X_distinct 8 = .ok (.iload_n 3, 1) := by decide +kernel
theorem d_X_distinct_9 : decode b_X_distinct 9 = .ok (.ifCond .eq 5, 3) := by decide +kernel
theorem d_X_distinct_12 : decode b_X_distinct 12 = .ok (.iload_n 3, 1) := by decide +kernel
theorem d_X_distinct_13 : decode b_X_distinct 13 = .ok (.ireturn, 1) := by decide +kernel
theorem d_X_distinct_14 : decode b_X_distinct 14 = .ok (.aload_n 0, 1) := by decide +kernel
theorem d_X_distinct_15 : decode b_X_distinct 15 = .ok (.getfield 24, 3) := by decide +kernel
theorem d_X_distinct_18 : decode b_X_distinct 18 = .ok (.iload_n 2, 1) := by decide +kernel
theorem d_X_distinct_19 : decode b_X_distinct 19 = .ok (.aaload, 1) := by decide +kernel
theorem d_X_distinct_20 : decode b_X_distinct 20 = .ok (.astore 4, 2) := by decide +kernel
theorem d_X_distinct_22 : decode b_X_distinct 22 = .ok (.aload 4, 2) := by decide +kernel
theorem d_X_distinct_24 : decode b_X_distinct 24 = .ok (.aload_n 0, 1) := by decide +kernel
theorem d_X_distinct_25 : decode b_X_distinct 25 = .ok (.getfield 24, 3) := by decide +kernel
theorem d_X_distinct_28 : decode b_X_distinct 28 = .ok (.iload_n 1, 1) := by decide +kernel
theorem d_X_distinct_29 : decode b_X_distinct 29 = .ok (.aaload, 1) := by decide +kernel
theorem d_X_distinct_30 : decode b_X_distinct 30 = .ok (.invokevirtual 61, 3) := by decide +kernel
theorem d_X_distinct_33 : decode b_X_distinct 33 = .ok (.aload 4, 2) := by decide +kernel
theorem d_X_distinct_35 : decode b_X_distinct 35 = .ok (.iconst 2, 1) := by decide +kernel
theorem d_X_distinct_36 : decode b_X_distinct 36 = .ok (.invokevirtual 94, 3) := by decide +kernel
theorem d_X_distinct_39 : decode b_X_distinct 39 = .ok (.aload 4, 2) := by decide +kernel
theorem d_X_distinct_41 : decode b_X_distinct 41 = .ok (.invokevirtual 102, 3) := by decide +kernel
theorem d_X_distinct_44 : decode b_X_distinct 44 = .ok (.aload_n 0, 1) := by decide +kernel
theorem d_X_distinct_45 : decode b_X_distinct 45 = .ok (.getfield 24, 3) := by decide +kernel
theorem d_X_distinct_48 : decode b_X_distinct 48 = .ok (.iload_n 1, 1) := by decide +kernel
theorem d_X_distinct_49 : decode b_X_distinct 49 = .ok (.aaload, 1) := by decide +kernel
theorem d_X_distinct_50 : decode b_X_distinct 50 = .ok (.getfield 50, 3) := by decide +kernel
theorem d_X_distinct_53 : decode b_X_distinct 53 = .ok (.istore 5, 2) := by decide +kernel
theorem d_X_distinct_55 : decode b_X_distinct 55 = .ok (.aload_n 0, 1) := by decide +kernel
theorem d_X_distinct_56 : decode b_X_distinct 56 = .ok (.iload_n 2, 1) := by decide +kernel
theorem d_X_distinct_57 : decode b_X_distinct 57 = .ok (.aload_n 0, 1) := by decide +kernel
theorem d_X_distinct_58 : decode b_X_distinct 58 = .ok (.iload 5, 2) := by decide +kernel
theorem d_X_distinct_60 : decode b_X_distinct 60 = .ok (.invokevirtual 98, 3) := by decide +kernel
theorem d_X_distinct_63 : decode b_X_distinct 63 = .ok (.iload 5, 2) := by decide +kernel
theorem d_X_distinct_65 : decode b_X_distinct 65 = .ok (.invokestatic 68, 3) := by decide +kernel
theorem d_X_distinct_68 : decode b_X_distinct 68 = .ok (.i2l, 1) := by decide +kernel
theorem d_X_distinct_69 : decode b_X_distinct 69 = .ok (.ladd, 1) := by decide +kernel
theorem d_X_distinct_70 : decode b_X_distinct 70 = .ok (.aload 4, 2) := by decide +kernel
theorem d_X_distinct_72 : decode b_X_distinct 72 = .ok (.getfield 50, 3) := by decide +kernel
theorem d_X_distinct_75 : decode b_X_distinct 75 = .ok (.invokestatic 68, 3) := by decide +kernel
theorem d_X_distinct_78 : decode b_X_distinct 78 = .ok (.i2l, 1) := by decide +kernel
theorem d_X_distinct_79 : decode b_X_distinct 79 = .ok (.ladd, 1) := by decide +kernel
theorem d_X_distinct_80 : decode b_X_distinct 80 = .ok (.invokevirtual 72, 3) := by decide +kernel
theorem d_X_distinct_83 : decode b_X_distinct 83 = .ok (.ireturn, 1) := by decide +kernel
theorem d_X_group_0 : decode b_X_group 0 = .ok (.aload_n 0, 1) := by decide +kernel
theorem d_X_group_1 : decode b_X_group 1 = .ok (.iload_n 1, 1) := by decide +kernel
theorem d_X_group_2 : decode b_X_group 2 = .ok (.iload_n 1, 1) := by decide +kernel
theorem d_X_group_3 : decode b_X_group 3 = .ok (.iload_n 2, 1) := by decide +kernel
theorem d_X_group_4 : decode b_X_group 4 = .ok (.invokevirtual 90, 3) := by decide +kernel
theorem d_X_group_7 : decode b_X_group 7 = .ok (.istore_n 3, 1) := by decide +kernel
theorem d_X_group_8 : decode b_X_group 8 = .ok (.iload_n 3, 1) := by decide +kernel
theorem d_X_group_9 : decode b_X_group 9 = .ok (.ifCond .eq 5, 3) := by decide +kernel
theorem d_X_group_12 : decode b_X_group 12 = .ok (.iload_n 3, 1) := by decide +kernel
theorem d_X_group_13 : decode b_X_group 13 = .ok (.ireturn, 1) := by decide +kernel
theorem d_X_group_14 : decode b_X_group 14 = .ok (.aload_n 0, 1) := by decide +kernel
theorem d_X_group_15 : decode b_X_group 15 = .ok (.getfield 24, 3) := by decide +kernel
theorem d_X_group_18 : decode b_X_group 18 = .ok (.iload_n 2, 1) := by decide +kernel
theorem d_X_group_19 : decode b_X_group 19 = .ok (.aaload, 1) := by decide +kernel
theorem d_X_group_20 : decode b_X_group 20 = .ok (.astore 4, 2) := by decide +kernel
theorem d_X_group_22 : decode b_X_group 22 = .ok (.aload 4, 2) := by decide +kernel
theorem d_X_group_24 : decode b_X_group 24 = .ok (.invokevirtual 65, 3) := by decide +kernel
theorem d_X_group_27 : decode b_X_group 27 = .ok (.aload_n 0, 1) := by decide +kernel
theorem d_X_group_28 : decode b_X_group 28 = .ok (.getfield 37, 3) := by decide +kernel
theorem d_X_group_31 : decode b_X_group 31 = .ok (.aload_n 0, 1) := by decide +kernel
theorem d_X_group_32 : decode b_X_group 32 = .ok (.getfield 24, 3) := by decide +kernel
theorem d_X_group_35 : decode b_X_group 35 = .ok (.iload_n 1, 1) := by decide +kernel
theorem d_X_group_36 : decode b_X_group 36 = .ok (.aaload, 1) := by decide +kernel
theorem d_X_group_37 : decode b_X_group 37 = .ok (.invokevirtual 61, 3) := by decide +kernel
theorem d_X_group_40 : decode b_X_group 40 = .ok (.lconst 0, 1) := by decide +kernel
theorem d_X_group_41 : decode b_X_group 41 = .ok (.lstore 5, 2) := by decide +kernel
theorem d_X_group_43 : decode b_X_group 43 = .ok (.iconst 0, 1) := by decide +kernel
theorem d_X_group_44 : decode b_X_group 44 = .ok (.istore 7, 2) := by decide +kernel
theorem d_X_group_46 : decode b_X_group 46 = .ok (.iload 7, 2) := by decide +kernel
theorem d_X_group_48 : decode b_X_group 48 = .ok (.bipush 60, 2) := by decide +kernel
theorem d_X_group_50 : decode b_X_group 50 = .ok (.if_icmp .ge 61, 3) := by decide +kernel
theorem d_X_group_53 : decode b_X_group 53 = .ok (.aload_n 0, 1) := by decide +kernel
theorem d_X_group_54 : decode b_X_group 54 = .ok (.getfield 37, 3) := by decide +kernel
theorem d_X_group_57 : decode b_X_group 57 = .ok (.getfield 50, 3) := by decide +kernel
theorem d_X_group_60 : decode b_X_group 60 = .ok (.ifCond .le 51, 3) := by decide +kernel
theorem d_X_group_63 : decode b_X_group 63 = .ok (.lload 5, 2) := by decide +kernel
theorem d_X_group_65 : decode b_X_group 65 = .ok (.aload_n 0, 1) := by decide +kernel
theorem d_X_group_66 : decode b_X_group 66 = .ok (.getfield 37, 3) := by decide +kernel
theorem d_X_group_69 : decode b_X_group 69 = .ok (.getfield 50, 3) := by decide +kernel
theorem d_X_group_72 : decode b_X_group 72 = .ok (.invokestatic 68, 3) := by decide +kernel
theorem d_X_group_75 : decode b_X_group 75 = .ok (.i2l, 1) := by decide +kernel
theorem d_X_group_76 : decode b_X_group 76 = .ok (.ladd, 1) := by decide +kernel
theorem d_X_group_77 : decode b_X_group 77 = .ok (.lstore 5, 2) := by decide +kernel
theorem d_X_group_79 : decode b_X_group 79 = .ok (.aload_n 0, 1) := by decide +kernel
theorem d_X_group_80 : decode b_X_group 80 = .ok (.aload_n 0, 1) := by decide +kernel
theorem d_X_group_81 : decode b_X_group 81 = .ok (.getfield 37, 3) := by decide +kernel
theorem d_X_group_84 : decode b_X_group 84 = .ok (.aload 4, 2) := by decide +kernel
theorem d_X_group_86 : decode b_X_group 86 = .ok (.invokevirtual 105, 3) := by decide +kernel
theorem d_X_group_89 : decode b_X_group 89 = .ok (.lload 5, 2) := by decide +kernel
theorem d_X_group_91 : decode b_X_group 91 = .ok (.aload_n 0, 1) := by decide +kernel
theorem d_X_group_92 : decode b_X_group 92 = .ok (.getfield 37, 3) := by decide +kernel
theorem d_X_group_95 : decode b_X_group 95 = .ok (.getfield 50, 3) := by decide +kernel
theorem d_X_group_98 : decode b_X_group 98 = .ok (.invokestatic 68, 3) := by decide +kernel
theorem d_X_group_101 : decode b_X_group 101 = .ok (.i2l, 1) := by decide +kernel
theorem d_X_group_102 : decode b_X_group 102 = .ok (.ladd, 1) := by decide +kernel
theorem d_X_group_103 : decode b_X_group 103 = .ok (.lstore 5, 2) := by decide +kernel
theorem d_X_group_105 : decode b_X_group 105 = .ok (.iinc 7 1, 3) := by decide +kernel
theorem d_X_group_108 : decode b_X_group 108 = .ok (.goto (-62), 3) := by decide +kernel
theorem d_X_group_111 : decode b_X_group 111 = .ok (.aload_n 0, 1) := by decide +kernel
theorem d_X_group_112 : decode b_X_group 112 = .ok (.iload_n 2, 1) := by decide +kernel
theorem d_X_group_113 : decode b_X_group 113 = .ok (.lload 5, 2) := by decide +kernel
theorem d_X_group_115 : decode b_X_group 115 = .ok (.aload 4, 2) := by decide +kernel
theorem d_X_group_117 : decode b_X_group 117 = .ok (.getfield 50, 3) := by decide +kernel
theorem d_X_group_120 : decode b_X_group 120 = .ok (.invokestatic 68, 3) := by decide +kernel
theorem d_X_group_123 : decode b_X_group 123 = .ok (.i2l, 1) := by decide +kernel
theorem d_X_group_124 : decode b_X_group 124 = .ok (.ladd, 1) := by decide +kernel
theorem d_X_group_125 : decode b_X_group 125 = .ok (.invokevirtual 72, 3) := by decide +kernel
theorem d_X_group_128 : decode b_X_group 128 = .ok (.ireturn, 1) := by decide +kernel
theorem d_X_combine_0 : decode b_X_combine 0 = .ok (.iload_n 1, 1) := by decide +kernel
theorem d_X_combine_1 : decode b_X_combine 1 = .ok (.ifCond .lt 8, 3) := by decide +kernel
theorem d_X_combine_4 : decode b_X_combine 4 = .ok (.iload_n 1, 1) := by decide +kernel
theorem d_X_combine_5 : decode b_X_combine 5 = .ok (.iconst 3, 1) := by decide +kernel
theorem d_X_combine_6 : decode b_X_combine 6 = .ok (.if_icmp .le 5, 3) := by decide +kernel
theorem d_X_combine_9 : decode b_X_combine 9 = .ok (.iconst (-1), 1) := by decide +kernel
theorem d_X_combine_10 : decode b_X_combine 10 = .ok (.ireturn, 1) := by decide +kernel
theorem d_X_combine_11 : decode b_X_combine 11 = .ok (.aload_n 0, 1) := by decide +kernel
theorem d_X_combine_12 : decode b_X_combine 12 = .ok (.iload_n 2, 1) := by decide +kernel
theorem d_X_combine_13 : decode b_X_combine 13 = .ok (.iload_n 3, 1) := by decide +kernel
theorem d_X_combine_14 : decode b_X_combine 14 = .ok (.iload 4, 2) := by decide +kernel
theorem d_X_combine_16 : decode b_X_combine 16 = .ok (.invokevirtual 90, 3) := by decide +kernel
theorem d_X_combine_19 : decode b_X_combine 19 = .ok (.istore 5, 2) := by decide +kernel
theorem d_X_combine_21 : decode b_X_combine 21 = .ok (.iload 5, 2) := by decide +kernel
theorem d_X_combine_23 : decode b_X_combine 23 = .ok (.ifCond .eq 6, 3) := by decide +kernel
theorem d_X_combine_26 : decode b_X_combine 26 = .ok (.iload 5, 2) := by decide +kernel
theorem d_X_combine_28 : decode b_X_combine 28 = .ok (.ireturn, 1) := by decide +kernel
theorem d_X_combine_29 : decode b_X_combine 29 = .ok (.aload_n 0, 1) := by decide +kernel
theorem d_X_combine_30 : decode b_X_combine 30 = .ok (.getfield 37, 3) := by decide +kernel
theorem d_X_combine_33 : decode b_X_combine 33 = .ok (.aload_n 0, 1) := by decide +kernel
theorem d_X_combine_34 : decode b_X_combine 34 = .ok (.getfield 24, 3) := by decide +kernel
theorem d_X_combine_37 : decode b_X_combine 37 = .ok (.iload_n 2, 1) := by decide +kernel
theorem d_X_combine_38 : decode b_X_combine 38 = .ok (.aaload, 1) := by decide +kernel
theorem d_X_combine_39 : decode b_X_combine 39 = .ok (.invokevirtual 61, 3) := by decide +kernel
theorem d_X_combine_42 : decode b_X_combine 42 = .ok (.aload_n 0, 1) := by decide +kernel
theorem d_X_combine_43 : decode b_X_combine 43 = .ok (.getfield 37, 3) := by decide +kernel
theorem d_X_combine_46 : decode b_X_combine 46 = .ok (.iconst 2, 1) := by decide +kernel
theorem d_X_combine_47 : decode b_X_combine 47 = .ok (.invokevirtual 94, 3) := by decide +kernel
theorem d_X_combine_50 : decode b_X_combine 50 = .ok (.aload_n 0, 1) := by decide +kernel
theorem d_X_combine_51 : decode b_X_combine 51 = .ok (.getfield 40, 3) := by decide +kernel
theorem d_X_combine_54 : decode b_X_combine 54 = .ok (.aload_n 0, 1) := by decide +kernel
theorem d_X_combine_55 : decode b_X_combine 55 = .ok (.getfield 24, 3) := by decide +kernel
theorem d_X_combine_58 : decode b_X_combine 58 = .ok (.iload_n 3, 1) := by decide +kernel
theorem d_X_combine_59 : decode b_X_combine 59 = .ok (.aaload, 1) := by decide +kernel
theorem d_X_combine_60 : decode b_X_combine 60 = .ok (.invokevirtual 61, 3) := by decide +kernel
theorem d_X_combine_63 : decode b_X_combine 63 = .ok (.aload_n 0, 1) := by decide +kernel
theorem d_X_combine_64 : decode b_X_combine 64 = .ok (.getfield 40, 3) := by decide +kernel
theorem d_X_combine_67 : decode b_X_combine 67 = .ok (.iconst 2, 1) := by decide +kernel
theorem d_X_combine_68 : decode b_X_combine 68 = .ok (.invokevirtual 94, 3) := by decide +kernel
theorem d_X_combine_71 : decode b_X_combine 71 = .ok (.aload_n 0, 1) := by decide +kernel
theorem d_X_combine_72 : decode b_X_combine 72 = .ok (.getfield 24, 3) := by decide +kernel
theorem d_X_combine_75 : decode b_X_combine 75 = .ok (.iload 4, 2) := by decide +kernel
theorem d_X_combine_77 : decode b_X_combine 77 = .ok (.aaload, 1) := by decide +kernel
theorem d_X_combine_78 : decode b_X_combine 78 = .ok (.astore 6, 2) := by decide +kernel
theorem d_X_combine_80 : decode b_X_combine 80 = .ok (.aload 6, 2) := by decide +kernel
theorem d_X_combine_82 : decode b_X_combine 82 = .ok (.invokevirtual 65, 3) := by decide +kernel
theorem d_X_combine_85 : decode b_X_combine 85 = .ok (.aload_n 0, 1) := by decide +kernel
theorem d_X_combine_86 : decode b_X_combine 86 = .ok (.iload_n 1, 1) := by decide +kernel
theorem d_X_combine_87 : decode b_X_combine 87 = .ok (.aload 6, 2) := by decide +kernel
theorem d_X_combine_89 : decode b_X_combine 89 = .ok (.invokevirtual 109, 3) := by decide +kernel
theorem d_X_combine_92 : decode b_X_combine 92 = .ok (.aload_n 0, 1) := by decide +kernel
theorem d_X_combine_93 : decode b_X_combine 93 = .ok (.aload_n 0, 1) := by decide +kernel
theorem d_X_combine_94 : decode b_X_combine 94 = .ok (.getfield 37, 3) := by decide +kernel
theorem d_X_combine_97 : decode b_X_combine 97 = .ok (.getfield 50, 3) := by decide +kernel
theorem d_X_combine_100 : decode b_X_combine 100 = .ok (.invokevirtual 98, 3) := by decide +kernel
theorem d_X_combine_103 : decode b_X_combine 103 = .ok (.aload_n 0, 1) := by decide +kernel
theorem d_X_combine_104 : decode b_X_combine 104 = .ok (.aload_n 0, 1) := by decide +kernel
theorem d_X_combine_105 : decode b_X_combine 105 = .ok (.getfield 40, 3) := by decide +kernel
theorem d_X_combine_108 : decode b_X_combine 108 = .ok (.getfield 50, 3) := by decide +kernel
theorem d_X_combine_111 : decode b_X_combine 111 = .ok (.invokevirtual 98, 3) := by decide +kernel
theorem d_X_combine_114 : decode b_X_combine 114 = .ok (.ladd, 1) := by decide +kernel
theorem d_X_combine_115 : decode b_X_combine 115 = .ok (.lstore 7, 2) := by decide +kernel
theorem d_X_combine_117 : decode b_X_combine 117 = .ok (.lload 7, 2) := by decide +kernel
theorem d_X_combine_119 : decode b_X_combine 119 = .ok (.aload_n 0, 1) := by decide +kernel
theorem d_X_combine_120 : decode b_X_combine 120 = .ok (.getfield 37, 3) := by decide +kernel
theorem d_X_combine_123 : decode b_X_combine 123 = .ok (.getfield 50, 3) := by decide +kernel
theorem d_X_combine_126 : decode b_X_combine 126 = .ok (.invokestatic 68, 3) := by decide +kernel
theorem d_X_combine_129 : decode b_X_combine 129 = .ok (.aload_n 0, 1) := by decide +kernel
theorem d_X_combine_130 : decode b_X_combine 130 = .ok (.getfield 40, 3) := by decide +kernel
theorem d_X_combine_133 : decode b_X_combine 133 = .ok (.getfield 50, 3) := by decide +kernel
theorem d_X_combine_136 : decode b_X_combine 136 = .ok (.invokestatic 68, 3) := by decide +kernel
theorem d_X_combine_139 : decode b_X_combine 139 = .ok (.iadd, 1) := by decide +kernel
theorem d_X_combine_140 : decode b_X_combine 140 = .ok (.i2l, 1) := by decide +kernel
theorem d_X_combine_141 : decode b_X_combine 141 = .ok (.ladd, 1) := by decide +kernel
theorem d_X_combine_142 : decode b_X_combine 142 = .ok (.lstore 7, 2) := by decide +kernel
theorem d_X_combine_144 : decode b_X_combine 144 = .ok (.aload_n 0, 1) := by decide +kernel
theorem d_X_combine_145 : decode b_X_combine 145 = .ok (.iload 4, 2) := by decide +kernel
theorem d_X_combine_147 : decode b_X_combine 147 = .ok (.lload 7, 2) := by decide +kernel
theorem d_X_combine_149 : decode b_X_combine 149 = .ok (.aload 6, 2) := by decide +kernel
theorem d_X_combine_151 : decode b_X_combine 151 = .ok (.getfield 50, 3) := by decide +kernel
theorem d_X_combine_154 : decode b_X_combine 154 = .ok (.invokestatic 68, 3) := by decide +kernel
theorem d_X_combine_157 : decode b_X_combine 157 = .ok (.i2l, 1) := by decide +kernel
theorem d_X_combine_158 : decode b_X_combine 158 = .ok (.ladd, 1) := by decide +kernel
theorem d_X_combine_159 : decode b_X_combine 159 = .ok (.invokevirtual 72, 3) := by decide +kernel
theorem d_X_combine_162 : decode b_X_combine 162 = .ok (.ireturn, 1) := by decide +kernel
theorem d_X_join_0 : decode b_X_join 0 = .ok (.aload_n 0, 1) := by decide +kernel
theorem d_X_join_1 : decode b_X_join 1 = .ok (.iload_n 1, 1) := by decide +kernel
theorem d_X_join_2 : decode b_X_join 2 = .ok (.iload_n 2, 1) := by decide +kernel
theorem d_X_join_3 : decode b_X_join 3 = .ok (.iload_n 3, 1) := by decide +kernel
theorem d_X_join_4 : decode b_X_join 4 = .ok (.invokevirtual 90, 3) := by decide +kernel
theorem d_X_join_7 : decode b_X_join 7 = .ok (.istore 4, 2) := by decide +kernel
theorem d_X_join_9 : decode b_X_join 9 = .ok (.iload 4, 2) := by decide +kernel
theorem d_X_join_11 : decode b_X_join 11 = .ok (.ifCond .eq 6, 3) := by decide +kernel
theorem d_X_join_14 : decode b_X_join 14 = .ok (.iload 4, 2) := by decide +kernel
theorem d_X_join_16 : decode b_X_join 16 = .ok (.ireturn, 1) := by decide +kernel
theorem d_X_join_17 : decode b_X_join 17 = .ok (.aload_n 0, 1) := by decide +kernel
theorem d_X_join_18 : decode b_X_join 18 = .ok (.getfield 37, 3) := by decide +kernel
theorem d_X_join_21 : decode b_X_join 21 = .ok (.aload_n 0, 1) := by decide +kernel
theorem d_X_join_22 : decode b_X_join 22 = .ok (.getfield 24, 3) := by decide +kernel
theorem d_X_join_25 : decode b_X_join 25 = .ok (.iload_n 1, 1) := by decide +kernel
theorem d_X_join_26 : decode b_X_join 26 = .ok (.aaload, 1) := by decide +kernel
theorem d_X_join_27 : decode b_X_join 27 = .ok (.invokevirtual 61, 3) := by decide +kernel
theorem d_X_join_30 : decode b_X_join 30 = .ok (.aload_n 0, 1) := by decide +kernel
theorem d_X_join_31 : decode b_X_join 31 = .ok (.getfield 40, 3) := by decide +kernel
theorem d_X_join_34 : decode b_X_join 34 = .ok (.aload_n 0, 1) := by decide +kernel
theorem d_X_join_35 : decode b_X_join 35 = .ok (.getfield 24, 3) := by decide +kernel
theorem d_X_join_38 : decode b_X_join 38 = .ok (.iload_n 2, 1) := by decide +kernel
theorem d_X_join_39 : decode b_X_join 39 = .ok (.aaload, 1) := by decide +kernel
theorem d_X_join_40 : decode b_X_join 40 = .ok (.invokevirtual 61, 3) := by decide +kernel
theorem d_X_join_43 : decode b_X_join 43 = .ok (.aload_n 0, 1) := by decide +kernel
theorem d_X_join_44 : decode b_X_join 44 = .ok (.getfield 24, 3) := by decide +kernel
theorem d_X_join_47 : decode b_X_join 47 = .ok (.iload_n 3, 1) := by decide +kernel
theorem d_X_join_48 : decode b_X_join 48 = .ok (.aaload, 1) := by decide +kernel
theorem d_X_join_49 : decode b_X_join 49 = .ok (.astore 5, 2) := by decide +kernel
theorem d_X_join_51 : decode b_X_join 51 = .ok (.aload 5, 2) := by decide +kernel
theorem d_X_join_53 : decode b_X_join 53 = .ok (.invokevirtual 65, 3) := by decide +kernel
theorem d_X_join_56 : decode b_X_join 56 = .ok (.aload_n 0, 1) := by decide +kernel
theorem d_X_join_57 : decode b_X_join 57 = .ok (.iconst 0, 1) := by decide +kernel
theorem d_X_join_58 : decode b_X_join 58 = .ok (.aload_n 0, 1) := by decide +kernel
theorem d_X_join_59 : decode b_X_join 59 = .ok (.getfield 37, 3) := by decide +kernel
theorem d_X_join_62 : decode b_X_join 62 = .ok (.getfield 50, 3) := by decide +kernel
theorem d_X_join_65 : decode b_X_join 65 = .ok (.iconst 0, 1) := by decide +kernel
theorem d_X_join_66 : decode b_X_join 66 = .ok (.aload_n 0, 1) := by decide +kernel
theorem d_X_join_67 : decode b_X_join 67 = .ok (.getfield 40, 3) := by decide +kernel
theorem d_X_join_70 : decode b_X_join 70 = .ok (.getfield 50, 3) := by decide +kernel
theorem d_X_join_73 : decode b_X_join 73 = .ok (.iconst 0, 1) := by decide +kernel
theorem d_X_join_74 : decode b_X_join 74 = .ok (.aload 5, 2) := by decide +kernel
theorem d_X_join_76 : decode b_X_join 76 = .ok (.invokevirtual 113, 3) := by decide +kernel
theorem d_X_join_79 : decode b_X_join 79 = .ok (.lstore 6, 2) := by decide +kernel
theorem d_X_join_81 : decode b_X_join 81 = .ok (.aload_n 0, 1) := by decide +kernel
theorem d_X_join_82 : decode b_X_join 82 = .ok (.iload_n 3, 1) := by decide +kernel
theorem d_X_join_83 : decode b_X_join 83 = .ok (.lload 6, 2) := by decide +kernel
theorem d_X_join_85 : decode b_X_join 85 = .ok (.aload 5, 2) := by decide +kernel
theorem d_X_join_87 : decode b_X_join 87 = .ok (.getfield 50, 3) := by decide +kernel
theorem d_X_join_90 : decode b_X_join 90 = .ok (.invokestatic 68, 3) := by decide +kernel
theorem d_X_join_93 : decode b_X_join 93 = .ok (.i2l, 1) := by decide +kernel
theorem d_X_join_94 : decode b_X_join 94 = .ok (.ladd, 1) := by decide +kernel
theorem d_X_join_95 : decode b_X_join 95 = .ok (.invokevirtual 72, 3) := by decide +kernel
theorem d_X_join_98 : decode b_X_join 98 = .ok (.ireturn, 1) := by decide +kernel
theorem d_X_transfers_0 : decode b_X_transfers 0 = .ok (.aload_n 0, 1) := by decide +kernel
theorem d_X_transfers_1 : decode b_X_transfers 1 = .ok (.getfield 46, 3) := by decide +kernel
theorem d_X_transfers_4 : decode b_X_transfers 4 = .ok (.lreturn, 1) := by decide +kernel
theorem d_X_blocks_0 : decode b_X_blocks 0 = .ok (.iconst 0, 1) := by decide +kernel
theorem d_X_blocks_1 : decode b_X_blocks 1 = .ok (.istore_n 1, 1) := by decide +kernel
theorem d_X_blocks_2 : decode b_X_blocks 2 = .ok (.iconst 0, 1) := by decide +kernel
theorem d_X_blocks_3 : decode b_X_blocks 3 = .ok (.istore_n 2, 1) := by decide +kernel
theorem d_X_blocks_4 : decode b_X_blocks 4 = .ok (.iload_n 2, 1) := by decide +kernel
theorem d_X_blocks_5 : decode b_X_blocks 5 = .ok (.bipush 8, 2) := by decide +kernel
theorem d_X_blocks_7 : decode b_X_blocks 7 = .ok (.if_icmp .ge 33, 3) := by decide +kernel
theorem d_X_blocks_10 : decode b_X_blocks 10 = .ok (.aload_n 0, 1) := by decide +kernel
theorem d_X_blocks_11 : decode b_X_blocks 11 = .ok (.getfield 29, 3) := by decide +kernel
theorem d_X_blocks_14 : decode b_X_blocks 14 = .ok (.iload_n 2, 1) := by decide +kernel
theorem d_X_blocks_15 : decode b_X_blocks 15 = .ok (.baload, 1) := by decide +kernel
theorem d_X_blocks_16 : decode b_X_blocks 16 = .ok (.ifCond .eq 18, 3) := by decide +kernel
theorem d_X_blocks_19 : decode b_X_blocks 19 = .ok (.iload_n 1, 1) := by decide +kernel
theorem d_X_blocks_20 : decode b_X_blocks 20 = .ok (.aload_n 0, 1) := by decide +kernel
theorem d_X_blocks_21 : decode b_X_blocks 21 = .ok (.getfield 24, 3) := by decide +kernel
theorem d_X_blocks_24 : decode b_X_blocks 24 = .ok (.iload_n 2, 1) := by decide +kernel
theorem d_X_blocks_25 : decode b_X_blocks 25 = .ok (.aaload, 1) := by decide +kernel
theorem d_X_blocks_26 : decode b_X_blocks 26 = .ok (.getfield 50, 3) := by decide +kernel
theorem d_X_blocks_29 : decode b_X_blocks 29 = .ok (.invokestatic 68, 3) := by decide +kernel
theorem d_X_blocks_32 : decode b_X_blocks 32 = .ok (.iadd, 1) := by decide +kernel
theorem d_X_blocks_33 : decode b_X_blocks 33 = .ok (.istore_n 1, 1) := by decide +kernel
theorem d_X_blocks_34 : decode b_X_blocks 34 = .ok (.iinc 2 1, 3) := by decide +kernel
theorem d_X_blocks_37 : decode b_X_blocks 37 = .ok (.goto (-33), 3) := by decide +kernel
theorem d_X_blocks_40 : decode b_X_blocks 40 = .ok (.iload_n 1, 1) := by decide +kernel
theorem d_X_blocks_41 : decode b_X_blocks 41 = .ok (.ireturn, 1) := by decide +kernel
theorem d_X_isSlot_0 : decode b_X_isSlot 0 = .ok (.iload_n 0, 1) := by decide +kernel
theorem d_X_isSlot_1 : decode b_X_isSlot 1 = .ok (.ifCond .lt 13, 3) := by decide +kernel
theorem d_X_isSlot_4 : decode b_X_isSlot 4 = .ok (.iload_n 0, 1) := by decide +kernel
theorem d_X_isSlot_5 : decode b_X_isSlot 5 = .ok (.bipush 8, 2) := by decide +kernel
theorem d_X_isSlot_7 : decode b_X_isSlot 7 = .ok (.if_icmp .ge 7, 3) := by decide +kernel
theorem d_X_isSlot_10 : decode b_X_isSlot 10 = .ok (.iconst 1, 1) := by decide +kernel
theorem d_X_isSlot_11 : decode b_X_isSlot 11 = .ok (.goto 4, 3) := by decide +kernel
theorem d_X_isSlot_14 : decode b_X_isSlot 14 = .ok (.iconst 0, 1) := by decide +kernel
theorem d_X_isSlot_15 : decode b_X_isSlot 15 = .ok (.ireturn, 1) := by decide +kernel
theorem d_X_holdsTable_0 : decode b_X_holdsTable 0 = .ok (.iload_n 1, 1) := by decide +kernel
theorem d_X_holdsTable_1 : decode b_X_holdsTable 1 = .ok (.invokestatic 57, 3) := by decide +kernel
theorem d_X_holdsTable_4 : decode b_X_holdsTable 4 = .ok (.ifCond .eq 16, 3) := by decide +kernel
theorem d_X_holdsTable_7 : decode b_X_holdsTable 7 = .ok (.aload_n 0, 1) := by decide +kernel
theorem d_X_holdsTable_8 : decode b_X_holdsTable 8 = .ok (.getfield 29, 3) := by decide +kernel
theorem d_X_holdsTable_11 : decode b_X_holdsTable 11 = .ok (.iload_n 1, 1) := by decide +kernel
theorem d_X_holdsTable_12 : decode b_X_holdsTable 12 = .ok (.baload, 1) := by decide +kernel
theorem d_X_holdsTable_13 : decode b_X_holdsTable 13 = .ok (.ifCond .eq 7, 3) := by decide +kernel
theorem d_X_holdsTable_16 : decode b_X_holdsTable 16 = .ok (.iconst 1, 1) := by decide +kernel
theorem d_X_holdsTable_17 : decode b_X_holdsTable 17 = .ok (.goto 4, 3) := by decide +kernel
theorem d_X_holdsTable_20 : decode b_X_holdsTable 20 = .ok (.iconst 0, 1) := by decide +kernel
theorem d_X_holdsTable_21 : decode b_X_holdsTable 21 = .ok (.ireturn, 1) := by decide +kernel
theorem d_X_holdsRow_0 : decode b_X_holdsRow 0 = .ok (.aload_n 0, 1) := by decide +kernel
theorem d_X_holdsRow_1 : decode b_X_holdsRow 1 = .ok (.iload_n 1, 1) := by decide +kernel
theorem d_X_holdsRow_2 : decode b_X_holdsRow 2 = .ok (.invokevirtual 76, 3) := by decide +kernel
theorem d_X_holdsRow_5 : decode b_X_holdsRow 5 = .ok (.ifCond .eq 24, 3) := by decide +kernel
theorem d_X_holdsRow_8 : decode b_X_holdsRow 8 = .ok (.iload_n 2, 1) := by decide +kernel
theorem d_X_holdsRow_9 : decode b_X_holdsRow 9 = .ok (.ifCond .lt 20, 3) := by decide +kernel
theorem d_X_holdsRow_12 : decode b_X_holdsRow 12 = .ok (.iload_n 2, 1) := by decide +kernel
theorem d_X_holdsRow_13 : decode b_X_holdsRow 13 = .ok (.aload_n 0, 1) := by decide +kernel
theorem d_X_holdsRow_14 : decode b_X_holdsRow 14 = .ok (.getfield 24, 3) := by decide +kernel
theorem d_X_holdsRow_17 : decode b_X_holdsRow 17 = .ok (.iload_n 1, 1) := by decide +kernel
theorem d_X_holdsRow_18 : decode b_X_holdsRow 18 = .ok (.aaload, 1) := by decide +kernel
theorem d_X_holdsRow_19 : decode b_X_holdsRow 19 = .ok (.getfield 50, 3) := by decide +kernel
theorem d_X_holdsRow_22 : decode b_X_holdsRow 22 = .ok (.if_icmp .ge 7, 3) := by decide +kernel
theorem d_X_holdsRow_25 : decode b_X_holdsRow 25 = .ok (.iconst 1, 1) := by decide +kernel
theorem d_X_holdsRow_26 : decode b_X_holdsRow 26 = .ok (.goto 4, 3) := by decide +kernel
theorem d_X_holdsRow_29 : decode b_X_holdsRow 29 = .ok (.iconst 0, 1) := by decide +kernel
theorem d_X_holdsRow_30 : decode b_X_holdsRow 30 = .ok (.ireturn, 1) := by decide +kernel
