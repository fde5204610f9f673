theorem d_X_init_0 : decode b_X_init 0 = .ok (.aload_n 0, 1) := by decide +kernel
theorem d_X_init_1 : decode b_X_init 1 = .ok (.invokespecial 1, 3) := by decide +kernel
theorem d_X_init_4 : decode b_X_init 4 = .ok (.aload_n 0, 1) := by decide +kernel
theorem d_X_init_5 : decode b_X_init 5 = .ok (.new 7, 3) := by decide +kernel
theorem d_X_init_8 : decode b_X_init 8 = .ok (.dup, 1) := by decide +kernel
theorem d_X_init_9 : decode b_X_init 9 = .ok (.invokespecial 9, 3) := by decide +kernel
theorem d_X_init_12 : decode b_X_init 12 = .ok (.putfield 10, 3) := by decide +kernel
theorem d_X_init_15 : decode b_X_init 15 = .ok (.aload_n 0, 1) := by decide +kernel
theorem d_X_init_16 : decode b_X_init 16 = .ok (.new 16, 3) := by decide +kernel
theorem d_X_init_19 : decode b_X_init 19 = .ok (.dup, 1) := by decide +kernel
theorem d_X_init_20 : decode b_X_init 20 = .ok (.invokespecial 18, 3) := by decide +kernel
theorem d_X_init_23 : decode b_X_init 23 = .ok (.putfield 19, 3) := by decide +kernel
theorem d_X_init_26 : decode b_X_init 26 = .ok (.aload_n 0, 1) := by decide +kernel
theorem d_X_init_27 : decode b_X_init 27 = .ok (.new 23, 3) := by decide +kernel
theorem d_X_init_30 : decode b_X_init 30 = .ok (.dup, 1) := by decide +kernel
theorem d_X_init_31 : decode b_X_init 31 = .ok (.invokespecial 25, 3) := by decide +kernel
theorem d_X_init_34 : decode b_X_init 34 = .ok (.putfield 26, 3) := by decide +kernel
theorem d_X_init_37 : decode b_X_init 37 = .ok (.aload_n 0, 1) := by decide +kernel
theorem d_X_init_38 : decode b_X_init 38 = .ok (.iconst 0, 1) := by decide +kernel
theorem d_X_init_39 : decode b_X_init 39 = .ok (.putfield 30, 3) := by decide +kernel
theorem d_X_init_42 : decode b_X_init 42 = .ok (.return_, 1) := by decide +kernel
theorem d_X_make_0 : decode b_X_make 0 = .ok (.iload_n 1, 1) := by decide +kernel
theorem d_X_make_1 : decode b_X_make 1 = .ok (.iconst 1, 1) := by decide +kernel
theorem d_X_make_2 : decode b_X_make 2 = .ok (.if_icmp .lt 8, 3) := by decide +kernel
theorem d_X_make_5 : decode b_X_make 5 = .ok (.iload_n 1, 1) := by decide +kernel
theorem d_X_make_6 : decode b_X_make 6 = .ok (.iconst 4, 1) := by decide +kernel
theorem d_X_make_7 : decode b_X_make 7 = .ok (.if_icmp .le 5, 3) := by decide +kernel
theorem d_X_make_10 : decode b_X_make 10 = .ok (.iconst (-1), 1) := by decide +kernel
theorem d_X_make_11 : decode b_X_make 11 = .ok (.ireturn, 1) := by decide +kernel
theorem d_X_make_12 : decode b_X_make 12 = .ok (.aload_n 0, 1) := by decide +kernel
theorem d_X_make_13 : decode b_X_make 13 = .ok (.getfield 19, 3) := by decide +kernel
theorem d_X_make_16 : decode b_X_make 16 = .ok (.invokevirtual 34, 3) := by decide +kernel
theorem d_X_make_19 : decode b_X_make 19 = .ok (.ifCond .eq 6, 3) := by decide +kernel
theorem d_X_make_22 : decode b_X_make 22 = .ok (.bipush (-2), 2) := by decide +kernel
theorem d_X_make_24 : decode b_X_make 24 = .ok (.ireturn, 1) := by decide +kernel
theorem d_X_make_25 : decode b_X_make 25 = .ok (.aload_n 0, 1) := by decide +kernel
theorem d_X_make_26 : decode b_X_make 26 = .ok (.getfield 10, 3) := by decide +kernel
theorem d_X_make_29 : decode b_X_make 29 = .ok (.iload_n 1, 1) := by decide +kernel
theorem d_X_make_30 : decode b_X_make 30 = .ok (.iconst 1, 1) := by decide +kernel
theorem d_X_make_31 : decode b_X_make 31 = .ok (.iadd, 1) := by decide +kernel
theorem d_X_make_32 : decode b_X_make 32 = .ok (.invokevirtual 38, 3) := by decide +kernel
theorem d_X_make_35 : decode b_X_make 35 = .ok (.istore_n 2, 1) := by decide +kernel
theorem d_X_make_36 : decode b_X_make 36 = .ok (.iload_n 2, 1) := by decide +kernel
theorem d_X_make_37 : decode b_X_make 37 = .ok (.iconst (-1), 1) := by decide +kernel
theorem d_X_make_38 : decode b_X_make 38 = .ok (.if_icmp .ne 19, 3) := by decide +kernel
theorem d_X_make_41 : decode b_X_make 41 = .ok (.aload_n 0, 1) := by decide +kernel
theorem d_X_make_42 : decode b_X_make 42 = .ok (.invokevirtual 42, 3) := by decide +kernel
theorem d_X_make_45 : decode b_X_make 45 = .ok (.pop, 1) := by decide +kernel
theorem d_X_make_46 : decode b_X_make 46 = .ok (.aload_n 0, 1) := by decide +kernel
theorem d_X_make_47 : decode b_X_make 47 = .ok (.getfield 10, 3) := by decide +kernel
theorem d_X_make_50 : decode b_X_make 50 = .ok (.iload_n 1, 1) := by decide +kernel
theorem d_X_make_51 : decode b_X_make 51 = .ok (.iconst 1, 1) := by decide +kernel
theorem d_X_make_52 : decode b_X_make 52 = .ok (.iadd, 1) := by decide +kernel
theorem d_X_make_53 : decode b_X_make 53 = .ok (.invokevirtual 38, 3) := by decide +kernel
theorem d_X_make_56 : decode b_X_make 56 = .ok (.istore_n 2, 1) := by decide +kernel
theorem d_X_make_57 : decode b_X_make 57 = .ok (.iload_n 2, 1) := by decide +kernel
theorem d_X_make_58 : decode b_X_make 58 = .ok (.iconst (-1), 1) := by decide +kernel
theorem d_X_make_59 : decode b_X_make 59 = .ok (.if_icmp .ne 6, 3) := by decide +kernel
theorem d_X_make_62 : decode b_X_make 62 = .ok (.bipush (-3), 2) := by decide +kernel
theorem d_X_make_64 : decode b_X_make 64 = .ok (.ireturn, 1) := by decide +kernel
theorem d_X_make_65 : decode b_X_make 65 = .ok (.aload_n 0, 1) := by decide +kernel
theorem d_X_make_66 : decode b_X_make 66 = .ok (.getfield 19, 3) := by decide +kernel
theorem d_X_make_69 : decode b_X_make 69 = .ok (.aload_n 0, 1) := by decide +kernel
theorem d_X_make_70 : decode b_X_make 70 = .ok (.getfield 10, 3) := by decide +kernel
theorem d_X_make_73 : decode b_X_make 73 = .ok (.iload_n 2, 1) := by decide +kernel
theorem d_X_make_74 : decode b_X_make 74 = .ok (.iload_n 1, 1) := by decide +kernel
theorem d_X_make_75 : decode b_X_make 75 = .ok (.invokevirtual 46, 3) := by decide +kernel
theorem d_X_make_78 : decode b_X_make 78 = .ok (.invokevirtual 50, 3) := by decide +kernel
theorem d_X_make_81 : decode b_X_make 81 = .ok (.ireturn, 1) := by decide +kernel
theorem d_X_copy_0 : decode b_X_copy 0 = .ok (.aload_n 0, 1) := by decide +kernel
theorem d_X_copy_1 : decode b_X_copy 1 = .ok (.getfield 19, 3) := by decide +kernel
theorem d_X_copy_4 : decode b_X_copy 4 = .ok (.iload_n 1, 1) := by decide +kernel
theorem d_X_copy_5 : decode b_X_copy 5 = .ok (.invokevirtual 53, 3) := by decide +kernel
theorem d_X_copy_8 : decode b_X_copy 8 = .ok (.ifCond .ne 5, 3) := by decide +kernel
theorem d_X_copy_11 : decode b_X_copy 11 = .ok (.iconst (-1), 1) := by decide +kernel
theorem d_X_copy_12 : decode b_X_copy 12 = .ok (.ireturn, 1) := by decide +kernel
theorem d_X_copy_13 : decode b_X_copy 13 = .ok (.aload_n 0, 1) := by decide +kernel
theorem d_X_copy_14 : decode b_X_copy 14 = .ok (.getfield 19, 3) := by decide +kernel
theorem d_X_copy_17 : decode b_X_copy 17 = .ok (.invokevirtual 34, 3) := by decide +kernel
theorem d_X_copy_20 : decode b_X_copy 20 = .ok (.ifCond .eq 6, 3) := by decide +kernel
theorem d_X_copy_23 : decode b_X_copy 23 = .ok (.bipush (-2), 2) := by decide +kernel
theorem d_X_copy_25 : decode b_X_copy 25 = .ok (.ireturn, 1) := by decide +kernel
theorem d_X_copy_26 : decode b_X_copy 26 = .ok (.aload_n 0, 1) := by decide +kernel
theorem d_X_copy_27 : decode b_X_copy 27 = .ok (.getfield 19, 3) := by decide +kernel
theorem d_X_copy_30 : decode b_X_copy 30 = .ok (.aload_n 0, 1) := by decide +kernel
theorem d_X_copy_31 : decode b_X_copy 31 = .ok (.getfield 19, 3) := by decide +kernel
theorem d_X_copy_34 : decode b_X_copy 34 = .ok (.iload_n 1, 1) := by decide +kernel
theorem d_X_copy_35 : decode b_X_copy 35 = .ok (.invokevirtual 57, 3) := by decide +kernel
theorem d_X_copy_38 : decode b_X_copy 38 = .ok (.invokevirtual 50, 3) := by decide +kernel
theorem d_X_copy_41 : decode b_X_copy 41 = .ok (.ireturn, 1) := by decide +kernel
theorem d_X_load_0 : decode b_X_load 0 = .ok (.aload_n 0, 1) := by decide +kernel
theorem d_X_load_1 : decode b_X_load 1 = .ok (.iload_n 1, 1) := by decide +kernel
theorem d_X_load_2 : decode b_X_load 2 = .ok (.invokevirtual 60, 3) := by decide +kernel
theorem d_X_load_5 : decode b_X_load 5 = .ok (.istore_n 3, 1) := by decide +kernel
theorem d_X_load_6 : decode b_X_load 6 = .ok (.aload_n 0, 1) := by decide +kernel
theorem d_X_load_7 : decode b_X_load 7 = .ok (.getfield 10, 3) := by decide +kernel
theorem d_X_load_10 : decode b_X_load 10 = .ok (.iload_n 3, 1) := by decide +kernel
theorem d_X_load_11 : decode b_X_load 11 = .ok (.iload_n 2, 1) := by decide +kernel
theorem d_X_load_12 : decode b_X_load 12 = .ok (.invokevirtual 63, 3) := by decide +kernel
theorem d_X_load_15 : decode b_X_load 15 = .ok (.ifCond .ne 5, 3) := by decide +kernel
theorem d_X_load_18 : decode b_X_load 18 = .ok (.iconst (-1), 1) := by decide +kernel
theorem d_X_load_19 : decode b_X_load 19 = .ok (.ireturn, 1) := by decide +kernel
theorem d_X_load_20 : decode b_X_load 20 = .ok (.aload_n 0, 1) := by decide +kernel
theorem d_X_load_21 : decode b_X_load 21 = .ok (.getfield 19, 3) := by decide +kernel
theorem d_X_load_24 : decode b_X_load 24 = .ok (.invokevirtual 34, 3) := by decide +kernel
theorem d_X_load_27 : decode b_X_load 27 = .ok (.ifCond .eq 6, 3) := by decide +kernel
theorem d_X_load_30 : decode b_X_load 30 = .ok (.bipush (-2), 2) := by decide +kernel
theorem d_X_load_32 : decode b_X_load 32 = .ok (.ireturn, 1) := by decide +kernel
theorem d_X_load_33 : decode b_X_load 33 = .ok (.aload_n 0, 1) := by decide +kernel
theorem d_X_load_34 : decode b_X_load 34 = .ok (.getfield 19, 3) := by decide +kernel
theorem d_X_load_37 : decode b_X_load 37 = .ok (.aload_n 0, 1) := by decide +kernel
theorem d_X_load_38 : decode b_X_load 38 = .ok (.getfield 10, 3) := by decide +kernel
theorem d_X_load_41 : decode b_X_load 41 = .ok (.iload_n 3, 1) := by decide +kernel
theorem d_X_load_42 : decode b_X_load 42 = .ok (.iload_n 2, 1) := by decide +kernel
theorem d_X_load_43 : decode b_X_load 43 = .ok (.invokevirtual 67, 3) := by decide +kernel
theorem d_X_load_46 : decode b_X_load 46 = .ok (.invokevirtual 50, 3) := by decide +kernel
theorem d_X_load_49 : decode b_X_load 49 = .ok (.ireturn, 1) := by decide +kernel
theorem d_X_store_0 : decode b_X_store 0 = .ok (.aload_n 0, 1) := by decide +kernel
theorem d_X_store_1 : decode b_X_store 1 = .ok (.iload_n 1, 1) := by decide +kernel
theorem d_X_store_2 : decode b_X_store 2 = .ok (.invokevirtual 60, 3) := by decide +kernel
theorem d_X_store_5 : decode b_X_store 5 = .ok (.istore 4, 2) := by decide +kernel
theorem d_X_store_7 : decode b_X_store 7 = .ok (.aload_n 0, 1) := by decide +kernel
theorem d_X_store_8 : decode b_X_store 8 = .ok (.getfield 10, 3) := by decide +kernel
theorem d_X_store_11 : decode b_X_store 11 = .ok (.iload 4, 2) := by decide +kernel
theorem d_X_store_13 : decode b_X_store 13 = .ok (.iload_n 2, 1) := by decide +kernel
theorem d_X_store_14 : decode b_X_store 14 = .ok (.invokevirtual 63, 3) := by decide +kernel
theorem d_X_store_17 : decode b_X_store 17 = .ok (.ifCond .ne 5, 3) := by decide +kernel
theorem d_X_store_20 : decode b_X_store 20 = .ok (.iconst 0, 1) := by decide +kernel
theorem d_X_store_21 : decode b_X_store 21 = .ok (.ireturn, 1) := by decide +kernel
theorem d_X_store_22 : decode b_X_store 22 = .ok (.iload_n 3, 1) := by decide +kernel
theorem d_X_store_23 : decode b_X_store 23 = .ok (.iconst (-1), 1) := by decide +kernel
theorem d_X_store_24 : decode b_X_store 24 = .ok (.if_icmp .eq 16, 3) := by decide +kernel
theorem d_X_store_27 : decode b_X_store 27 = .ok (.aload_n 0, 1) := by decide +kernel
theorem d_X_store_28 : decode b_X_store 28 = .ok (.getfield 19, 3) := by decide +kernel
theorem d_X_store_31 : decode b_X_store 31 = .ok (.iload_n 3, 1) := by decide +kernel
theorem d_X_store_32 : decode b_X_store 32 = .ok (.invokevirtual 53, 3) := by decide +kernel
theorem d_X_store_35 : decode b_X_store 35 = .ok (.ifCond .ne 5, 3) := by decide +kernel
theorem d_X_store_38 : decode b_X_store 38 = .ok (.iconst 0, 1) := by decide +kernel
theorem d_X_store_39 : decode b_X_store 39 = .ok (.ireturn, 1) := by decide +kernel
theorem d_X_store_40 : decode b_X_store 40 = .ok (.aload_n 0, 1) := by decide +kernel
theorem d_X_store_41 : decode b_X_store 41 = .ok (.iload 4, 2) := by decide +kernel
theorem d_X_store_43 : decode b_X_store 43 = .ok (.invokevirtual 70, 3) := by decide +kernel
theorem d_X_store_46 : decode b_X_store 46 = .ok (.aload_n 0, 1) := by decide +kernel
theorem d_X_store_47 : decode b_X_store 47 = .ok (.getfield 10, 3) := by decide +kernel
theorem d_X_store_50 : decode b_X_store 50 = .ok (.iload 4, 2) := by decide +kernel
theorem d_X_store_52 : decode b_X_store 52 = .ok (.iload_n 2, 1) := by decide +kernel
theorem d_X_store_53 : decode b_X_store 53 = .ok (.iload_n 3, 1) := by decide +kernel
theorem d_X_store_54 : decode b_X_store 54 = .ok (.iconst (-1), 1) := by decide +kernel
theorem d_X_store_55 : decode b_X_store 55 = .ok (.if_icmp .ne 7, 3) := by decide +kernel
theorem d_X_store_58 : decode b_X_store 58 = .ok (.iconst 0, 1) := by decide +kernel
theorem d_X_store_59 : decode b_X_store 59 = .ok (.goto 11, 3) := by decide +kernel
theorem d_X_store_62 : decode b_X_store 62 = .ok (.aload_n 0, 1) := by decide +kernel
theorem d_X_store_63 : decode b_X_store 63 = .ok (.getfield 19, 3) := by decide +kernel
theorem d_X_store_66 : decode b_X_store 66 = .ok (.iload_n 3, 1) := by decide +kernel
theorem d_X_store_67 : decode b_X_store 67 = .ok (.invokevirtual 57, 3) := by decide +kernel
theorem d_X_store_70 : decode b_X_store 70 = .ok (.invokevirtual 74, 3) := by decide +kernel
theorem d_X_store_73 : decode b_X_store 73 = .ok (.iconst 1, 1) := by decide +kernel
theorem d_X_store_74 : decode b_X_store 74 = .ok (.ireturn, 1) := by decide +kernel
theorem d_X_drop_0 : decode b_X_drop 0 = .ok (.aload_n 0, 1) := by decide +kernel
theorem d_X_drop_1 : decode b_X_drop 1 = .ok (.getfield 19, 3) := by decide +kernel
theorem d_X_drop_4 : decode b_X_drop 4 = .ok (.invokevirtual 78, 3) := by decide +kernel
theorem d_X_drop_7 : decode b_X_drop 7 = .ok (.ifCond .ne 5, 3) := by decide +kernel
theorem d_X_drop_10 : decode b_X_drop 10 = .ok (.iconst (-1), 1) := by decide +kernel
theorem d_X_drop_11 : decode b_X_drop 11 = .ok (.ireturn, 1) := by decide +kernel
theorem d_X_drop_12 : decode b_X_drop 12 = .ok (.aload_n 0, 1) := by decide +kernel
theorem d_X_drop_13 : decode b_X_drop 13 = .ok (.getfield 19, 3) := by decide +kernel
theorem d_X_drop_16 : decode b_X_drop 16 = .ok (.invokevirtual 81, 3) := by decide +kernel
theorem d_X_drop_19 : decode b_X_drop 19 = .ok (.ireturn, 1) := by decide +kernel
theorem d_X_reckon_0 : decode b_X_reckon 0 = .ok (.aload_n 0, 1) := by decide +kernel
theorem d_X_reckon_1 : decode b_X_reckon 1 = .ok (.invokevirtual 42, 3) := by decide +kernel
theorem d_X_reckon_4 : decode b_X_reckon 4 = .ok (.ireturn, 1) := by decide +kernel
theorem d_X_stack_0 : decode b_X_stack 0 = .ok (.aload_n 0, 1) := by decide +kernel
theorem d_X_stack_1 : decode b_X_stack 1 = .ok (.getfield 19, 3) := by decide +kernel
theorem d_X_stack_4 : decode b_X_stack 4 = .ok (.invokevirtual 78, 3) := by decide +kernel
theorem d_X_stack_7 : decode b_X_stack 7 = .ok (.ireturn, 1) := by decide +kernel
theorem d_X_held_0 : decode b_X_held 0 = .ok (.aload_n 0, 1) := by decide +kernel
theorem d_X_held_1 : decode b_X_held 1 = .ok (.getfield 19, 3) := by decide +kernel
theorem d_X_held_4 : decode b_X_held 4 = .ok (.iload_n 1, 1) := by decide +kernel
theorem d_X_held_5 : decode b_X_held 5 = .ok (.invokevirtual 53, 3) := by decide +kernel
theorem d_X_held_8 : decode b_X_held 8 = .ok (.ifCond .eq 14, 3) := by decide +kernel
theorem d_X_held_11 : decode b_X_held 11 = .ok (.aload_n 0, 1) := by decide +kernel
theorem d_X_held_12 : decode b_X_held 12 = .ok (.getfield 19, 3) := by decide +kernel
theorem d_X_held_15 : decode b_X_held 15 = .ok (.iload_n 1, 1) := by decide +kernel
theorem d_X_held_16 : decode b_X_held 16 = .ok (.invokevirtual 57, 3) := by decide +kernel
theorem d_X_held_19 : decode b_X_held 19 = .ok (.goto 4, 3) := by decide +kernel
theorem d_X_held_22 : decode b_X_held 22 = .ok (.iconst (-1), 1) := by decide +kernel
theorem d_X_held_23 : decode b_X_held 23 = .ok (.ireturn, 1) := by decide +kernel
theorem d_X_alive_0 : decode b_X_alive 0 = .ok (.aload_n 0, 1) := by decide +kernel
theorem d_X_alive_1 : decode b_X_alive 1 = .ok (.getfield 10, 3) := by decide +kernel
theorem d_X_alive_4 : decode b_X_alive 4 = .ok (.invokevirtual 84, 3) := by decide +kernel
theorem d_X_alive_7 : decode b_X_alive 7 = .ok (.ireturn, 1) := by decide +kernel
theorem d_X_count_0 : decode b_X_count 0 = .ok (.aload_n 0, 1) := by decide +kernel
theorem d_X_count_1 : decode b_X_count 1 = .ok (.getfield 10, 3) := by decide +kernel
theorem d_X_count_4 : decode b_X_count 4 = .ok (.iload_n 1, 1) := by decide +kernel
theorem d_X_count_5 : decode b_X_count 5 = .ok (.invokevirtual 87, 3) := by decide +kernel
theorem d_X_count_8 : decode b_X_count 8 = .ok (.istore_n 2, 1) := by decide +kernel
theorem d_X_count_9 : decode b_X_count 9 = .ok (.iload_n 2, 1) := by decide +kernel
theorem d_X_count_10 : decode b_X_count 10 = .ok (.iconst (-1), 1) := by decide +kernel
theorem d_X_count_11 : decode b_X_count 11 = .ok (.if_icmp .ne 8, 3) := by decide +kernel
theorem d_X_count_14 : decode b_X_count 14 = .ok (.bipush (-3), 2) := by decide +kernel
theorem d_X_count_16 : decode b_X_count 16 = .ok (.goto 11, 3) := by decide +kernel
theorem d_X_count_19 : decode b_X_count 19 = .ok (.aload_n 0, 1) := by decide +kernel
theorem d_X_count_20 : decode b_X_count 20 = .ok (.getfield 10, 3) := by decide +kernel
theorem d_X_count_23 : decode b_X_count 23 = .ok (.iload_n 2, 1) := by decide +kernel
theorem d_X_count_24 : decode b_X_count 24 = .ok (.invokevirtual 90, 3) := by decide +kernel
theorem d_X_count_27 : decode b_X_count 27 = .ok (.ireturn, 1) := by decide +kernel
theorem d_X_cell_0 : decode b_X_cell 0 = .ok (.aload_n 0, 1) := by decide +kernel
theorem d_X_cell_1 : decode b_X_cell 1 = .ok (.getfield 10, 3) := by decide +kernel
theorem d_X_cell_4 : decode b_X_cell 4 = .ok (.iload_n 1, 1) := by decide +kernel
theorem d_X_cell_5 : decode b_X_cell 5 = .ok (.invokevirtual 87, 3) := by decide +kernel
theorem d_X_cell_8 : decode b_X_cell 8 = .ok (.istore_n 2, 1) := by decide +kernel
theorem d_X_cell_9 : decode b_X_cell 9 = .ok (.iload_n 2, 1) := by decide +kernel
theorem d_X_cell_10 : decode b_X_cell 10 = .ok (.iconst (-1), 1) := by decide +kernel
theorem d_X_cell_11 : decode b_X_cell 11 = .ok (.if_icmp .ne 8, 3) := by decide +kernel
theorem d_X_cell_14 : decode b_X_cell 14 = .ok (.bipush (-3), 2) := by decide +kernel
theorem d_X_cell_16 : decode b_X_cell 16 = .ok (.goto 4, 3) := by decide +kernel
theorem d_X_cell_19 : decode b_X_cell 19 = .ok (.iload_n 2, 1) := by decide +kernel
theorem d_X_cell_20 : decode b_X_cell 20 = .ok (.ireturn, 1) := by decide +kernel
theorem d_X_slot_0 : decode b_X_slot 0 = .ok (.aload_n 0, 1) := by decide +kernel
theorem d_X_slot_1 : decode b_X_slot 1 = .ok (.getfield 10, 3) := by decide +kernel
theorem d_X_slot_4 : decode b_X_slot 4 = .ok (.iload_n 1, 1) := by decide +kernel
theorem d_X_slot_5 : decode b_X_slot 5 = .ok (.invokevirtual 87, 3) := by decide +kernel
theorem d_X_slot_8 : decode b_X_slot 8 = .ok (.istore_n 3, 1) := by decide +kernel
theorem d_X_slot_9 : decode b_X_slot 9 = .ok (.iload_n 3, 1) := by decide +kernel
theorem d_X_slot_10 : decode b_X_slot 10 = .ok (.iconst (-1), 1) := by decide +kernel
theorem d_X_slot_11 : decode b_X_slot 11 = .ok (.if_icmp .ne 6, 3) := by decide +kernel
theorem d_X_slot_14 : decode b_X_slot 14 = .ok (.bipush (-3), 2) := by decide +kernel
theorem d_X_slot_16 : decode b_X_slot 16 = .ok (.ireturn, 1) := by decide +kernel
theorem d_X_slot_17 : decode b_X_slot 17 = .ok (.aload_n 0, 1) := by decide +kernel
theorem d_X_slot_18 : decode b_X_slot 18 = .ok (.getfield 10, 3) := by decide +kernel
theorem d_X_slot_21 : decode b_X_slot 21 = .ok (.iload_n 3, 1) := by decide +kernel
theorem d_X_slot_22 : decode b_X_slot 22 = .ok (.iload_n 2, 1) := by decide +kernel
theorem d_X_slot_23 : decode b_X_slot 23 = .ok (.invokevirtual 63, 3) := by decide +kernel
theorem d_X_slot_26 : decode b_X_slot 26 = .ok (.ifCond .eq 15, 3) := by decide +kernel
theorem d_X_slot_29 : decode b_X_slot 29 = .ok (.aload_n 0, 1) := by decide +kernel
theorem d_X_slot_30 : decode b_X_slot 30 = .ok (.getfield 10, 3) := by decide +kernel
theorem d_X_slot_33 : decode b_X_slot 33 = .ok (.iload_n 3, 1) := by decide +kernel
theorem d_X_slot_34 : decode b_X_slot 34 = .ok (.iload_n 2, 1) := by decide +kernel
theorem d_X_slot_35 : decode b_X_slot 35 = .ok (.invokevirtual 67, 3) := by decide +kernel
theorem d_X_slot_38 : decode b_X_slot 38 = .ok (.goto 4, 3) := by decide +kernel
theorem d_X_slot_41 : decode b_X_slot 41 = .ok (.iconst (-1), 1) := by decide +kernel
theorem d_X_slot_42 : decode b_X_slot 42 = .ok (.ireturn, 1) := by decide +kernel
theorem d_X_table_0 : decode b_X_table 0 = .ok (.aload_n 0, 1) := by decide +kernel
theorem d_X_table_1 : decode b_X_table 1 = .ok (.getfield 10, 3) := by decide +kernel
theorem d_X_table_4 : decode b_X_table 4 = .ok (.invokevirtual 93, 3) := by decide +kernel
theorem d_X_table_7 : decode b_X_table 7 = .ok (.ireturn, 1) := by decide +kernel
theorem d_X_state_0 : decode b_X_state 0 = .ok (.aload_n 0, 1) := by decide +kernel
theorem d_X_state_1 : decode b_X_state 1 = .ok (.getfield 10, 3) := by decide +kernel
theorem d_X_state_4 : decode b_X_state 4 = .ok (.iload_n 1, 1) := by decide +kernel
theorem d_X_state_5 : decode b_X_state 5 = .ok (.invokevirtual 87, 3) := by decide +kernel
theorem d_X_state_8 : decode b_X_state 8 = .ok (.istore_n 2, 1) := by decide +kernel
theorem d_X_state_9 : decode b_X_state 9 = .ok (.iload_n 2, 1) := by decide +kernel
theorem d_X_state_10 : decode b_X_state 10 = .ok (.iconst (-1), 1) := by decide +kernel
theorem d_X_state_11 : decode b_X_state 11 = .ok (.if_icmp .ne 5, 3) := by decide +kernel
theorem d_X_state_14 : decode b_X_state 14 = .ok (.iconst 0, 1) := by decide +kernel
theorem d_X_state_15 : decode b_X_state 15 = .ok (.ireturn, 1) := by decide +kernel
theorem d_X_state_16 : decode b_X_state 16 = .ok (.aload_n 0, 1) := by decide +kernel
theorem d_X_state_17 : decode b_X_state 17 = .ok (.getfield 10, 3) := by decide +kernel
theorem d_X_state_20 : decode b_X_state 20 = .ok (.iload_n 2, 1) := by decide +kernel
theorem d_X_state_21 : decode b_X_state 21 = .ok (.invokevirtual 96, 3) := by decide +kernel
theorem d_X_state_24 : decode b_X_state 24 = .ok (.ifCond .eq 7, 3) := by decide +kernel
theorem d_X_state_27 : decode b_X_state 27 = .ok (.iconst 1, 1) := by decide +kernel
theorem d_X_state_28 : decode b_X_state 28 = .ok (.goto 4, 3) := by decide +kernel
theorem d_X_state_31 : decode b_X_state 31 = .ok (.iconst 0, 1) := by decide +kernel
theorem d_X_state_32 : decode b_X_state 32 = .ok (.istore_n 3, 1) := by decide +kernel
theorem d_X_state_33 : decode b_X_state 33 = .ok (.aload_n 0, 1) := by decide +kernel
theorem d_X_state_34 : decode b_X_state 34 = .ok (.getfield 26, 3) := by decide +kernel
theorem d_X_state_37 : decode b_X_state 37 = .ok (.iload_n 1, 1) := by decide +kernel
theorem d_X_state_38 : decode b_X_state 38 = .ok (.invokevirtual 99, 3) := by decide +kernel
theorem d_X_state_41 : decode b_X_state 41 = .ok (.ifCond .eq 7, 3) := by decide +kernel
theorem d_X_state_44 : decode b_X_state 44 = .ok (.iconst 2, 1) := by decide +kernel
theorem d_X_state_45 : decode b_X_state 45 = .ok (.goto 4, 3) := by decide +kernel
theorem d_X_state_48 : decode b_X_state 48 = .ok (.iconst 0, 1) := by decide +kernel
theorem d_X_state_49 : decode b_X_state 49 = .ok (.istore 4, 2) := by decide +kernel
theorem d_X_state_51 : decode b_X_state 51 = .ok (.iload_n 3, 1) := by decide +kernel
theorem d_X_state_52 : decode b_X_state 52 = .ok (.iload 4, 2) := by decide +kernel
theorem d_X_state_54 : decode b_X_state 54 = .ok (.iadd, 1) := by decide +kernel
theorem d_X_state_55 : decode b_X_state 55 = .ok (.ireturn, 1) := by decide +kernel
theorem d_X_log_0 : decode b_X_log 0 = .ok (.aload_n 0, 1) := by decide +kernel
theorem d_X_log_1 : decode b_X_log 1 = .ok (.getfield 26, 3) := by decide +kernel
theorem d_X_log_4 : decode b_X_log 4 = .ok (.invokevirtual 102, 3) := by decide +kernel
theorem d_X_log_7 : decode b_X_log 7 = .ok (.ireturn, 1) := by decide +kernel
theorem d_X_entry_0 : decode b_X_entry 0 = .ok (.aload_n 0, 1) := by decide +kernel
theorem d_X_entry_1 : decode b_X_entry 1 = .ok (.getfield 26, 3) := by decide +kernel
theorem d_X_entry_4 : decode b_X_entry 4 = .ok (.iload_n 1, 1) := by decide +kernel
theorem d_X_entry_5 : decode b_X_entry 5 = .ok (.invokevirtual 103, 3) := by decide +kernel
theorem d_X_entry_8 : decode b_X_entry 8 = .ok (.ifCond .ne 5, 3) := by decide +kernel
theorem d_X_entry_11 : decode b_X_entry 11 = .ok (.iconst (-1), 1) := by decide +kernel
theorem d_X_entry_12 : decode b_X_entry 12 = .ok (.ireturn, 1) := by decide +kernel
theorem d_X_entry_13 : decode b_X_entry 13 = .ok (.aload_n 0, 1) := by decide +kernel
theorem d_X_entry_14 : decode b_X_entry 14 = .ok (.getfield 26, 3) := by decide +kernel
theorem d_X_entry_17 : decode b_X_entry 17 = .ok (.iload_n 1, 1) := by decide +kernel
theorem d_X_entry_18 : decode b_X_entry 18 = .ok (.invokevirtual 104, 3) := by decide +kernel
theorem d_X_entry_21 : decode b_X_entry 21 = .ok (.istore_n 3, 1) := by decide +kernel
theorem d_X_entry_22 : decode b_X_entry 22 = .ok (.iload_n 2, 1) := by decide +kernel
theorem d_X_entry_23 : decode b_X_entry 23 = .ok (.iconst (-1), 1) := by decide +kernel
theorem d_X_entry_24 : decode b_X_entry 24 = .ok (.if_icmp .ne 5, 3) := by decide +kernel
theorem d_X_entry_27 : decode b_X_entry 27 = .ok (.iload_n 3, 1) := by decide +kernel
theorem d_X_entry_28 : decode b_X_entry 28 = .ok (.ireturn, 1) := by decide +kernel
theorem d_X_entry_29 : decode b_X_entry 29 = .ok (.aload_n 0, 1) := by decide +kernel
theorem d_X_entry_30 : decode b_X_entry 30 = .ok (.getfield 10, 3) := by decide +kernel
theorem d_X_entry_33 : decode b_X_entry 33 = .ok (.aload_n 0, 1) := by decide +kernel
theorem d_X_entry_34 : decode b_X_entry 34 = .ok (.getfield 10, 3) := by decide +kernel
theorem d_X_entry_37 : decode b_X_entry 37 = .ok (.iload_n 3, 1) := by decide +kernel
theorem d_X_entry_38 : decode b_X_entry 38 = .ok (.invokevirtual 87, 3) := by decide +kernel
theorem d_X_entry_41 : decode b_X_entry 41 = .ok (.iload_n 2, 1) := by decide +kernel
theorem d_X_entry_42 : decode b_X_entry 42 = .ok (.invokevirtual 63, 3) := by decide +kernel
theorem d_X_entry_45 : decode b_X_entry 45 = .ok (.ifCond .eq 15, 3) := by decide +kernel
theorem d_X_entry_48 : decode b_X_entry 48 = .ok (.aload_n 0, 1) := by decide +kernel
theorem d_X_entry_49 : decode b_X_entry 49 = .ok (.getfield 26, 3) := by decide +kernel
theorem d_X_entry_52 : decode b_X_entry 52 = .ok (.iload_n 1, 1) := by decide +kernel
theorem d_X_entry_53 : decode b_X_entry 53 = .ok (.iload_n 2, 1) := by decide +kernel
theorem d_X_entry_54 : decode b_X_entry 54 = .ok (.invokevirtual 107, 3) := by decide +kernel
theorem d_X_entry_57 : decode b_X_entry 57 = .ok (.goto 4, 3) := by decide +kernel
theorem d_X_entry_60 : decode b_X_entry 60 = .ok (.iconst (-1), 1) := by decide +kernel
theorem d_X_entry_61 : decode b_X_entry 61 = .ok (.ireturn, 1) := by decide +kernel
theorem d_X_free_0 : decode b_X_free 0 = .ok (.aload_n 0, 1) := by decide +kernel
theorem d_X_free_1 : decode b_X_free 1 = .ok (.getfield 10, 3) := by decide +kernel
theorem d_X_free_4 : decode b_X_free 4 = .ok (.invokevirtual 110, 3) := by decide +kernel
theorem d_X_free_7 : decode b_X_free 7 = .ok (.ireturn, 1) := by decide +kernel
theorem d_X_reckonings_0 : decode b_X_reckonings 0 = .ok (.aload_n 0, 1) := by decide +kernel
theorem d_X_reckonings_1 : decode b_X_reckonings 1 = .ok (.getfield 30, 3) := by decide +kernel
theorem d_X_reckonings_4 : decode b_X_reckonings 4 = .ok (.ireturn, 1) := by decide +kernel
theorem d_X_firstCellAt_0 : decode b_X_firstCellAt 0 = .ok (.aload_n 0, 1) := by decide +kernel
theorem d_X_firstCellAt_1 : decode b_X_firstCellAt 1 = .ok (.getfield 19, 3) := by decide +kernel
theorem d_X_firstCellAt_4 : decode b_X_firstCellAt 4 = .ok (.iload_n 1, 1) := by decide +kernel
theorem d_X_firstCellAt_5 : decode b_X_firstCellAt 5 = .ok (.invokevirtual 53, 3) := by decide +kernel
theorem d_X_firstCellAt_8 : decode b_X_firstCellAt 8 = .ok (.ifCond .eq 21, 3) := by decide +kernel
theorem d_X_firstCellAt_11 : decode b_X_firstCellAt 11 = .ok (.aload_n 0, 1) := by decide +kernel
theorem d_X_firstCellAt_12 : decode b_X_firstCellAt 12 = .ok (.getfield 10, 3) := by decide +kernel
theorem d_X_firstCellAt_15 : decode b_X_firstCellAt 15 = .ok (.aload_n 0, 1) := by decide +kernel
theorem d_X_firstCellAt_16 : decode b_X_firstCellAt 16 = .ok (.getfield 19, 3) := by decide +kernel
theorem d_X_firstCellAt_19 : decode b_X_firstCellAt 19 = .ok (.iload_n 1, 1) := by decide +kernel
theorem d_X_firstCellAt_20 : decode b_X_firstCellAt 20 = .ok (.invokevirtual 57, 3) := by decide +kernel
theorem d_X_firstCellAt_23 : decode b_X_firstCellAt 23 = .ok (.invokevirtual 87, 3) := by decide +kernel
theorem d_X_firstCellAt_26 : decode b_X_firstCellAt 26 = .ok (.goto 4, 3) := by decide +kernel
theorem d_X_firstCellAt_29 : decode b_X_firstCellAt 29 = .ok (.iconst (-1), 1) := by decide +kernel
theorem d_X_firstCellAt_30 : decode b_X_firstCellAt 30 = .ok (.ireturn, 1) := by decide +kernel
theorem d_X_note_0 : decode b_X_note 0 = .ok (.aload_n 0, 1) := by decide +kernel
theorem d_X_note_1 : decode b_X_note 1 = .ok (.getfield 10, 3) := by decide +kernel
theorem d_X_note_4 : decode b_X_note 4 = .ok (.iload_n 1, 1) := by decide +kernel
theorem d_X_note_5 : decode b_X_note 5 = .ok (.invokevirtual 113, 3) := by decide +kernel
theorem d_X_note_8 : decode b_X_note 8 = .ok (.istore_n 2, 1) := by decide +kernel
theorem d_X_note_9 : decode b_X_note 9 = .ok (.aload_n 0, 1) := by decide +kernel
theorem d_X_note_10 : decode b_X_note 10 = .ok (.getfield 26, 3) := by decide +kernel
theorem d_X_note_13 : decode b_X_note 13 = .ok (.iload_n 2, 1) := by decide +kernel
theorem d_X_note_14 : decode b_X_note 14 = .ok (.invokevirtual 99, 3) := by decide +kernel
theorem d_X_note_17 : decode b_X_note 17 = .ok (.ifCond .eq 4, 3) := by decide +kernel
theorem d_X_note_20 : decode b_X_note 20 = .ok (.return_, 1) := by decide +kernel
theorem d_X_note_21 : decode b_X_note 21 = .ok (.aload_n 0, 1) := by decide +kernel
theorem d_X_note_22 : decode b_X_note 22 = .ok (.getfield 26, 3) := by decide +kernel
theorem d_X_note_25 : decode b_X_note 25 = .ok (.invokevirtual 116, 3) := by decide +kernel
theorem d_X_note_28 : decode b_X_note 28 = .ok (.ifCond .eq 8, 3) := by decide +kernel
theorem d_X_note_31 : decode b_X_note 31 = .ok (.aload_n 0, 1) := by decide +kernel
theorem d_X_note_32 : decode b_X_note 32 = .ok (.invokevirtual 42, 3) := by decide +kernel
theorem d_X_note_35 : decode b_X_note 35 = .ok (.pop, 1) := by decide +kernel
theorem d_X_note_36 : decode b_X_note 36 = .ok (.aload_n 0, 1) := by decide +kernel
theorem d_X_note_37 : decode b_X_note 37 = .ok (.getfield 26, 3) := by decide +kernel
theorem d_X_note_40 : decode b_X_note 40 = .ok (.iload_n 2, 1) := by decide +kernel
theorem d_X_note_41 : decode b_X_note 41 = .ok (.invokevirtual 117, 3) := by decide +kernel
theorem d_X_note_44 : decode b_X_note 44 = .ok (.istore_n 3, 1) := by decide +kernel
theorem d_X_note_45 : decode b_X_note 45 = .ok (.aload_n 0, 1) := by decide +kernel
theorem d_X_note_46 : decode b_X_note 46 = .ok (.getfield 10, 3) := by decide +kernel
theorem d_X_note_49 : decode b_X_note 49 = .ok (.iload_n 1, 1) := by decide +kernel
theorem d_X_note_50 : decode b_X_note 50 = .ok (.invokevirtual 120, 3) := by decide +kernel
theorem d_X_note_53 : decode b_X_note 53 = .ok (.istore 4, 2) := by decide +kernel
theorem d_X_note_55 : decode b_X_note 55 = .ok (.iconst 0, 1) := by decide +kernel
theorem d_X_note_56 : decode b_X_note 56 = .ok (.istore 5, 2) := by decide +kernel
theorem d_X_note_58 : decode b_X_note 58 = .ok (.iload 5, 2) := by decide +kernel
theorem d_X_note_60 : decode b_X_note 60 = .ok (.iload 4, 2) := by decide +kernel
theorem d_X_note_62 : decode b_X_note 62 = .ok (.if_icmp .ge 29, 3) := by decide +kernel
theorem d_X_note_65 : decode b_X_note 65 = .ok (.aload_n 0, 1) := by decide +kernel
theorem d_X_note_66 : decode b_X_note 66 = .ok (.getfield 26, 3) := by decide +kernel
theorem d_X_note_69 : decode b_X_note 69 = .ok (.iload_n 3, 1) := by decide +kernel
theorem d_X_note_70 : decode b_X_note 70 = .ok (.iload 5, 2) := by decide +kernel
theorem d_X_note_72 : decode b_X_note 72 = .ok (.aload_n 0, 1) := by decide +kernel
theorem d_X_note_73 : decode b_X_note 73 = .ok (.getfield 10, 3) := by decide +kernel
theorem d_X_note_76 : decode b_X_note 76 = .ok (.iload_n 1, 1) := by decide +kernel
theorem d_X_note_77 : decode b_X_note 77 = .ok (.iload 5, 2) := by decide +kernel
theorem d_X_note_79 : decode b_X_note 79 = .ok (.invokevirtual 67, 3) := by decide +kernel
theorem d_X_note_82 : decode b_X_note 82 = .ok (.invokevirtual 123, 3) := by decide +kernel
theorem d_X_note_85 : decode b_X_note 85 = .ok (.iinc 5 1, 3) := by decide +kernel
theorem d_X_note_88 : decode b_X_note 88 = .ok (.goto (-30), 3) := by decide +kernel
theorem d_X_note_91 : decode b_X_note 91 = .ok (.return_, 1) := by decide +kernel
theorem d_X_bringUpToDate_0 : decode b_X_bringUpToDate 0 = .ok (.aload_n 0, 1) := by decide +kernel
theorem d_X_bringUpToDate_1 : decode b_X_bringUpToDate 1 = .ok (.dup, 1) := by decide +kernel
theorem d_X_bringUpToDate_2 : decode b_X_bringUpToDate 2 = .ok (.getfield 30, 3) := by decide +kernel
theorem d_X_bringUpToDate_5 : decode b_X_bringUpToDate 5 = .ok (.iconst 1, 1) := by decide +kernel
theorem d_X_bringUpToDate_6 : decode b_X_bringUpToDate 6 = .ok (.iadd, 1) := by decide +kernel
theorem d_X_bringUpToDate_7 : decode b_X_bringUpToDate 7 = .ok (.putfield 30, 3) := by decide +kernel
theorem d_X_bringUpToDate_10 : decode b_X_bringUpToDate 10 = .ok (.iconst 0, 1) := by decide +kernel
theorem d_X_bringUpToDate_11 : decode b_X_bringUpToDate 11 = .ok (.istore_n 1, 1) := by decide +kernel
theorem d_X_bringUpToDate_12 : decode b_X_bringUpToDate 12 = .ok (.iload_n 1, 1) := by decide +kernel
theorem d_X_bringUpToDate_13 : decode b_X_bringUpToDate 13 = .ok (.aload_n 0, 1) := by decide +kernel
theorem d_X_bringUpToDate_14 : decode b_X_bringUpToDate 14 = .ok (.getfield 26, 3) := by decide +kernel
theorem d_X_bringUpToDate_17 : decode b_X_bringUpToDate 17 = .ok (.invokevirtual 102, 3) := by decide +kernel
theorem d_X_bringUpToDate_20 : decode b_X_bringUpToDate 20 = .ok (.if_icmp .ge 14, 3) := by decide +kernel
theorem d_X_bringUpToDate_23 : decode b_X_bringUpToDate 23 = .ok (.aload_n 0, 1) := by decide +kernel
theorem d_X_bringUpToDate_24 : decode b_X_bringUpToDate 24 = .ok (.iload_n 1, 1) := by decide +kernel
theorem d_X_bringUpToDate_25 : decode b_X_bringUpToDate 25 = .ok (.invokevirtual 126, 3) := by decide +kernel
theorem d_X_bringUpToDate_28 : decode b_X_bringUpToDate 28 = .ok (.iinc 1 1, 3) := by decide +kernel
theorem d_X_bringUpToDate_31 : decode b_X_bringUpToDate 31 = .ok (.goto (-19), 3) := by decide +kernel
theorem d_X_bringUpToDate_34 : decode b_X_bringUpToDate 34 = .ok (.aload_n 0, 1) := by decide +kernel
theorem d_X_bringUpToDate_35 : decode b_X_bringUpToDate 35 = .ok (.getfield 26, 3) := by decide +kernel
theorem d_X_bringUpToDate_38 : decode b_X_bringUpToDate 38 = .ok (.invokevirtual 129, 3) := by decide +kernel
theorem d_X_bringUpToDate_41 : decode b_X_bringUpToDate 41 = .ok (.aload_n 0, 1) := by decide +kernel
theorem d_X_bringUpToDate_42 : decode b_X_bringUpToDate 42 = .ok (.invokevirtual 132, 3) := by decide +kernel
theorem d_X_bringUpToDate_45 : decode b_X_bringUpToDate 45 = .ok (.ireturn, 1) := by decide +kernel
theorem d_X_countChangesOf_0 : decode b_X_countChangesOf 0 = .ok (.aload_n 0, 1) := by decide +kernel
theorem d_X_countChangesOf_1 : decode b_X_countChangesOf 1 = .ok (.getfield 10, 3) := by decide +kernel
theorem d_X_countChangesOf_4 : decode b_X_countChangesOf 4 = .ok (.aload_n 0, 1) := by decide +kernel
theorem d_X_countChangesOf_5 : decode b_X_countChangesOf 5 = .ok (.getfield 26, 3) := by decide +kernel
theorem d_X_countChangesOf_8 : decode b_X_countChangesOf 8 = .ok (.iload_n 1, 1) := by decide +kernel
theorem d_X_countChangesOf_9 : decode b_X_countChangesOf 9 = .ok (.invokevirtual 104, 3) := by decide +kernel
theorem d_X_countChangesOf_12 : decode b_X_countChangesOf 12 = .ok (.invokevirtual 87, 3) := by decide +kernel
theorem d_X_countChangesOf_15 : decode b_X_countChangesOf 15 = .ok (.istore_n 2, 1) := by decide +kernel
theorem d_X_countChangesOf_16 : decode b_X_countChangesOf 16 = .ok (.aload_n 0, 1) := by decide +kernel
theorem d_X_countChangesOf_17 : decode b_X_countChangesOf 17 = .ok (.getfield 10, 3) := by decide +kernel
theorem d_X_countChangesOf_20 : decode b_X_countChangesOf 20 = .ok (.iload_n 2, 1) := by decide +kernel
theorem d_X_countChangesOf_21 : decode b_X_countChangesOf 21 = .ok (.invokevirtual 120, 3) := by decide +kernel
theorem d_X_countChangesOf_24 : decode b_X_countChangesOf 24 = .ok (.istore_n 3, 1) := by decide +kernel
theorem d_X_countChangesOf_25 : decode b_X_countChangesOf 25 = .ok (.iconst 0, 1) := by decide +kernel
theorem d_X_countChangesOf_26 : decode b_X_countChangesOf 26 = .ok (.istore 4, 2) := by decide +kernel
theorem d_X_countChangesOf_28 : decode b_X_countChangesOf 28 = .ok (.iload 4, 2) := by decide +kernel
theorem d_X_countChangesOf_30 : decode b_X_countChangesOf 30 = .ok (.iload_n 3, 1) := by decide +kernel
theorem d_X_countChangesOf_31 : decode b_X_countChangesOf 31 = .ok (.if_icmp .ge 45, 3) := by decide +kernel
theorem d_X_countChangesOf_34 : decode b_X_countChangesOf 34 = .ok (.aload_n 0, 1) := by decide +kernel
theorem d_X_countChangesOf_35 : decode b_X_countChangesOf 35 = .ok (.getfield 10, 3) := by decide +kernel
theorem d_X_countChangesOf_38 : decode b_X_countChangesOf 38 = .ok (.aload_n 0, 1) := by decide +kernel
theorem d_X_countChangesOf_39 : decode b_X_countChangesOf 39 = .ok (.getfield 26, 3) := by decide +kernel
theorem d_X_countChangesOf_42 : decode b_X_countChangesOf 42 = .ok (.iload_n 1, 1) := by decide +kernel
theorem d_X_countChangesOf_43 : decode b_X_countChangesOf 43 = .ok (.iload 4, 2) := by decide +kernel
theorem d_X_countChangesOf_45 : decode b_X_countChangesOf 45 = .ok (.invokevirtual 107, 3) := by decide +kernel
theorem d_X_countChangesOf_48 : decode b_X_countChangesOf 48 = .ok (.iconst (-1), 1) := by decide +kernel
theorem d_X_countChangesOf_49 : decode b_X_countChangesOf 49 = .ok (.invokevirtual 135, 3) := by decide +kernel
theorem d_X_countChangesOf_52 : decode b_X_countChangesOf 52 = .ok (.aload_n 0, 1) := by decide +kernel
theorem d_X_countChangesOf_53 : decode b_X_countChangesOf 53 = .ok (.getfield 10, 3) := by decide +kernel
theorem d_X_countChangesOf_56 : decode b_X_countChangesOf 56 = .ok (.aload_n 0, 1) := by decide +kernel
theorem d_X_countChangesOf_57 : decode b_X_countChangesOf 57 = .ok (.getfield 10, 3) := by decide +kernel
theorem d_X_countChangesOf_60 : decode b_X_countChangesOf 60 = .ok (.iload_n 2, 1) := by decide +kernel
theorem d_X_countChangesOf_61 : decode b_X_countChangesOf 61 = .ok (.iload 4, 2) := by decide +kernel
theorem d_X_countChangesOf_63 : decode b_X_countChangesOf 63 = .ok (.invokevirtual 67, 3) := by decide +kernel
theorem d_X_countChangesOf_66 : decode b_X_countChangesOf 66 = .ok (.iconst 1, 1) := by decide +kernel
theorem d_X_countChangesOf_67 : decode b_X_countChangesOf 67 = .ok (.invokevirtual 135, 3) := by decide +kernel
theorem d_X_countChangesOf_70 : decode b_X_countChangesOf 70 = .ok (.iinc 4 1, 3) := by decide +kernel
theorem d_X_countChangesOf_73 : decode b_X_countChangesOf 73 = .ok (.goto (-45), 3) := by decide +kernel
theorem d_X_countChangesOf_76 : decode b_X_countChangesOf 76 = .ok (.return_, 1) := by decide +kernel
theorem d_X_freeUnheld_0 : decode b_X_freeUnheld 0 = .ok (.iconst 0, 1) := by decide +kernel
theorem d_X_freeUnheld_1 : decode b_X_freeUnheld 1 = .ok (.istore_n 1, 1) := by decide +kernel
theorem d_X_freeUnheld_2 : decode b_X_freeUnheld 2 = .ok (.iload_n 1, 1) := by decide +kernel
theorem d_X_freeUnheld_3 : decode b_X_freeUnheld 3 = .ok (.bipush 48, 2) := by decide +kernel
theorem d_X_freeUnheld_5 : decode b_X_freeUnheld 5 = .ok (.if_icmp .ge 30, 3) := by decide +kernel
theorem d_X_freeUnheld_8 : decode b_X_freeUnheld 8 = .ok (.aload_n 0, 1) := by decide +kernel
theorem d_X_freeUnheld_9 : decode b_X_freeUnheld 9 = .ok (.invokevirtual 139, 3) := by decide +kernel
theorem d_X_freeUnheld_12 : decode b_X_freeUnheld 12 = .ok (.istore_n 2, 1) := by decide +kernel
theorem d_X_freeUnheld_13 : decode b_X_freeUnheld 13 = .ok (.iload_n 2, 1) := by decide +kernel
theorem d_X_freeUnheld_14 : decode b_X_freeUnheld 14 = .ok (.iconst (-1), 1) := by decide +kernel
theorem d_X_freeUnheld_15 : decode b_X_freeUnheld 15 = .ok (.if_icmp .ne 6, 3) := by decide +kernel
theorem d_X_freeUnheld_18 : decode b_X_freeUnheld 18 = .ok (.goto 17, 3) := by decide +kernel
theorem d_X_freeUnheld_21 : decode b_X_freeUnheld 21 = .ok (.aload_n 0, 1) := by decide +kernel
theorem d_X_freeUnheld_22 : decode b_X_freeUnheld 22 = .ok (.getfield 10, 3) := by decide +kernel
theorem d_X_freeUnheld_25 : decode b_X_freeUnheld 25 = .ok (.iload_n 2, 1) := by decide +kernel
theorem d_X_freeUnheld_26 : decode b_X_freeUnheld 26 = .ok (.invokevirtual 142, 3) := by decide +kernel
theorem d_X_freeUnheld_29 : decode b_X_freeUnheld 29 = .ok (.iinc 1 1, 3) := by decide +kernel
theorem d_X_freeUnheld_32 : decode b_X_freeUnheld 32 = .ok (.goto (-30), 3) := by decide +kernel
theorem d_X_freeUnheld_35 : decode b_X_freeUnheld 35 = .ok (.iload_n 1, 1) := by decide +kernel
theorem d_X_freeUnheld_36 : decode b_X_freeUnheld 36 = .ok (.ireturn, 1) := by decide +kernel
theorem d_X_firstUnheld_0 : decode b_X_firstUnheld 0 = .ok (.iconst 0, 1) := by decide +kernel
theorem d_X_firstUnheld_1 : decode b_X_firstUnheld 1 = .ok (.istore_n 1, 1) := by decide +kernel
theorem d_X_firstUnheld_2 : decode b_X_firstUnheld 2 = .ok (.iload_n 1, 1) := by decide +kernel
theorem d_X_firstUnheld_3 : decode b_X_firstUnheld 3 = .ok (.bipush 48, 2) := by decide +kernel
theorem d_X_firstUnheld_5 : decode b_X_firstUnheld 5 = .ok (.if_icmp .ge 40, 3) := by decide +kernel
theorem d_X_firstUnheld_8 : decode b_X_firstUnheld 8 = .ok (.aload_n 0, 1) := by decide +kernel
theorem d_X_firstUnheld_9 : decode b_X_firstUnheld 9 = .ok (.getfield 10, 3) := by decide +kernel
theorem d_X_firstUnheld_12 : decode b_X_firstUnheld 12 = .ok (.iload_n 1, 1) := by decide +kernel
theorem d_X_firstUnheld_13 : decode b_X_firstUnheld 13 = .ok (.invokevirtual 96, 3) := by decide +kernel
theorem d_X_firstUnheld_16 : decode b_X_firstUnheld 16 = .ok (.ifCond .eq 23, 3) := by decide +kernel
theorem d_X_firstUnheld_19 : decode b_X_firstUnheld 19 = .ok (.aload_n 0, 1) := by decide +kernel
theorem d_X_firstUnheld_20 : decode b_X_firstUnheld 20 = .ok (.getfield 19, 3) := by decide +kernel
theorem d_X_firstUnheld_23 : decode b_X_firstUnheld 23 = .ok (.aload_n 0, 1) := by decide +kernel
theorem d_X_firstUnheld_24 : decode b_X_firstUnheld 24 = .ok (.getfield 10, 3) := by decide +kernel
theorem d_X_firstUnheld_27 : decode b_X_firstUnheld 27 = .ok (.iload_n 1, 1) := by decide +kernel
theorem d_X_firstUnheld_28 : decode b_X_firstUnheld 28 = .ok (.invokevirtual 113, 3) := by decide +kernel
theorem d_X_firstUnheld_31 : decode b_X_firstUnheld 31 = .ok (.invokevirtual 145, 3) := by decide +kernel
theorem d_X_firstUnheld_34 : decode b_X_firstUnheld 34 = .ok (.ifCond .ne 5, 3) := by decide +kernel
theorem d_X_firstUnheld_37 : decode b_X_firstUnheld 37 = .ok (.iload_n 1, 1) := by decide +kernel
theorem d_X_firstUnheld_38 : decode b_X_firstUnheld 38 = .ok (.ireturn, 1) := by decide +kernel
theorem d_X_firstUnheld_39 : decode b_X_firstUnheld 39 = .ok (.iinc 1 1, 3) := by decide +kernel
theorem d_X_firstUnheld_42 : decode b_X_firstUnheld 42 = .ok (.goto (-40), 3) := by decide +kernel
theorem d_X_firstUnheld_45 : decode b_X_firstUnheld 45 = .ok (.iconst (-1), 1) := by decide +kernel
theorem d_X_firstUnheld_46 : decode b_X_firstUnheld 46 = .ok (.ireturn, 1) := by decide +kernel
