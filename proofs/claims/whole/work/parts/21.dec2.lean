theorem d_Entries_init_0 : decode b_Entries_init 0 = .ok (.aload_n 0, 1) := by decide +kernel
theorem d_Entries_init_1 : decode b_Entries_init 1 = .ok (.invokespecial 3, 3) := by decide +kernel
theorem d_Entries_init_4 : decode b_Entries_init 4 = .ok (.aload_n 0, 1) := by decide +kernel
theorem d_Entries_init_5 : decode b_Entries_init 5 = .ok (.iconst 5, 1) := by decide +kernel
theorem d_Entries_init_6 : decode b_Entries_init 6 = .ok (.newarray .int, 2) := by decide +kernel
theorem d_Entries_init_8 : decode b_Entries_init 8 = .ok (.putfield 9, 3) := by decide +kernel
theorem d_Entries_init_11 : decode b_Entries_init 11 = .ok (.aload_n 0, 1) := by decide +kernel
theorem d_Entries_init_12 : decode b_Entries_init 12 = .ok (.iconst 5, 1) := by decide +kernel
theorem d_Entries_init_13 : decode b_Entries_init 13 = .ok (.iconst 4, 1) := by decide +kernel
theorem d_Entries_init_14 : decode b_Entries_init 14 = .ok (.multianewarray 15 2, 4) := by decide +kernel
theorem d_Entries_init_18 : decode b_Entries_init 18 = .ok (.putfield 17, 3) := by decide +kernel
theorem d_Entries_init_21 : decode b_Entries_init 21 = .ok (.aload_n 0, 1) := by decide +kernel
theorem d_Entries_init_22 : decode b_Entries_init 22 = .ok (.iconst 0, 1) := by decide +kernel
theorem d_Entries_init_23 : decode b_Entries_init 23 = .ok (.putfield 20, 3) := by decide +kernel
theorem d_Entries_init_26 : decode b_Entries_init 26 = .ok (.return_, 1) := by decide +kernel
theorem d_Entries_size_0 : decode b_Entries_size 0 = .ok (.aload_n 0, 1) := by decide +kernel
theorem d_Entries_size_1 : decode b_Entries_size 1 = .ok (.getfield 20, 3) := by decide +kernel
theorem d_Entries_size_4 : decode b_Entries_size 4 = .ok (.ireturn, 1) := by decide +kernel
theorem d_Entries_areFull_0 : decode b_Entries_areFull 0 = .ok (.aload_n 0, 1) := by decide +kernel
theorem d_Entries_areFull_1 : decode b_Entries_areFull 1 = .ok (.getfield 20, 3) := by decide +kernel
theorem d_Entries_areFull_4 : decode b_Entries_areFull 4 = .ok (.iconst 5, 1) := by decide +kernel
theorem d_Entries_areFull_5 : decode b_Entries_areFull 5 = .ok (.if_icmp .ne 7, 3) := by decide +kernel
theorem d_Entries_areFull_8 : decode b_Entries_areFull 8 = .ok (.iconst 1, 1) := by decide +kernel
theorem d_Entries_areFull_9 : decode b_Entries_areFull 9 = .ok (.goto 4, 3) := by decide +kernel
theorem d_Entries_areFull_12 : decode b_Entries_areFull 12 = .ok (.iconst 0, 1) := by decide +kernel
theorem d_Entries_areFull_13 : decode b_Entries_areFull 13 = .ok (.ireturn, 1) := by decide +kernel
theorem d_Entries_has_0 : decode b_Entries_has 0 = .ok (.iload_n 1, 1) := by decide +kernel
theorem d_Entries_has_1 : decode b_Entries_has 1 = .ok (.ifCond .lt 15, 3) := by decide +kernel
theorem d_Entries_has_4 : decode b_Entries_has 4 = .ok (.iload_n 1, 1) := by decide +kernel
theorem d_Entries_has_5 : decode b_Entries_has 5 = .ok (.aload_n 0, 1) := by decide +kernel
theorem d_Entries_has_6 : decode b_Entries_has 6 = .ok (.getfield 20, 3) := by decide +kernel
theorem d_Entries_has_9 : decode b_Entries_has 9 = .ok (.if_icmp .ge 7, 3) := by decide +kernel
theorem d_Entries_has_12 : decode b_Entries_has 12 = .ok (.iconst 1, 1) := by decide +kernel
theorem d_Entries_has_13 : decode b_Entries_has 13 = .ok (.goto 4, 3) := by decide +kernel
theorem d_Entries_has_16 : decode b_Entries_has 16 = .ok (.iconst 0, 1) := by decide +kernel
theorem d_Entries_has_17 : decode b_Entries_has 17 = .ok (.ireturn, 1) := by decide +kernel
theorem d_Entries_tellOf_0 : decode b_Entries_tellOf 0 = .ok (.iconst 0, 1) := by decide +kernel
theorem d_Entries_tellOf_1 : decode b_Entries_tellOf 1 = .ok (.istore_n 2, 1) := by decide +kernel
theorem d_Entries_tellOf_2 : decode b_Entries_tellOf 2 = .ok (.iload_n 2, 1) := by decide +kernel
theorem d_Entries_tellOf_3 : decode b_Entries_tellOf 3 = .ok (.aload_n 0, 1) := by decide +kernel
theorem d_Entries_tellOf_4 : decode b_Entries_tellOf 4 = .ok (.getfield 20, 3) := by decide +kernel
theorem d_Entries_tellOf_7 : decode b_Entries_tellOf 7 = .ok (.if_icmp .ge 21, 3) := by decide +kernel
theorem d_Entries_tellOf_10 : decode b_Entries_tellOf 10 = .ok (.aload_n 0, 1) := by decide +kernel
theorem d_Entries_tellOf_11 : decode b_Entries_tellOf 11 = .ok (.getfield 9, 3) := by decide +kernel
theorem d_Entries_tellOf_14 : decode b_Entries_tellOf 14 = .ok (.iload_n 2, 1) := by decide +kernel
theorem d_Entries_tellOf_15 : decode b_Entries_tellOf 15 = .ok (.iaload, 1) := by decide +kernel
theorem d_Entries_tellOf_16 : decode b_Entries_tellOf 16 = .ok (.iload_n 1, 1) := by decide +kernel
theorem d_Entries_tellOf_17 : decode b_Entries_tellOf 17 = .ok (.if_icmp .ne 5, 3) := by decide +kernel
theorem d_Entries_tellOf_20 : decode b_Entries_tellOf 20 = .ok (.iconst 1, 1) := by decide +kernel
theorem d_Entries_tellOf_21 : decode b_Entries_tellOf 21 = .ok (.ireturn, 1) := by decide +kernel
theorem d_Entries_tellOf_22 : decode b_Entries_tellOf 22 = .ok (.iinc 2 1, 3) := by decide +kernel
theorem d_Entries_tellOf_25 : decode b_Entries_tellOf 25 = .ok (.goto (-23), 3) := by decide +kernel
theorem d_Entries_tellOf_28 : decode b_Entries_tellOf 28 = .ok (.iconst 0, 1) := by decide +kernel
theorem d_Entries_tellOf_29 : decode b_Entries_tellOf 29 = .ok (.ireturn, 1) := by decide +kernel
theorem d_Entries_objectOf_0 : decode b_Entries_objectOf 0 = .ok (.aload_n 0, 1) := by decide +kernel
theorem d_Entries_objectOf_1 : decode b_Entries_objectOf 1 = .ok (.getfield 9, 3) := by decide +kernel
theorem d_Entries_objectOf_4 : decode b_Entries_objectOf 4 = .ok (.iload_n 1, 1) := by decide +kernel
theorem d_Entries_objectOf_5 : decode b_Entries_objectOf 5 = .ok (.iaload, 1) := by decide +kernel
theorem d_Entries_objectOf_6 : decode b_Entries_objectOf 6 = .ok (.ireturn, 1) := by decide +kernel
theorem d_Entries_before_0 : decode b_Entries_before 0 = .ok (.aload_n 0, 1) := by decide +kernel
theorem d_Entries_before_1 : decode b_Entries_before 1 = .ok (.getfield 17, 3) := by decide +kernel
theorem d_Entries_before_4 : decode b_Entries_before 4 = .ok (.iload_n 1, 1) := by decide +kernel
theorem d_Entries_before_5 : decode b_Entries_before 5 = .ok (.aaload, 1) := by decide +kernel
theorem d_Entries_before_6 : decode b_Entries_before 6 = .ok (.iload_n 2, 1) := by decide +kernel
theorem d_Entries_before_7 : decode b_Entries_before 7 = .ok (.iaload, 1) := by decide +kernel
theorem d_Entries_before_8 : decode b_Entries_before 8 = .ok (.ireturn, 1) := by decide +kernel
theorem d_Entries_setBefore_0 : decode b_Entries_setBefore 0 = .ok (.aload_n 0, 1) := by decide +kernel
theorem d_Entries_setBefore_1 : decode b_Entries_setBefore 1 = .ok (.getfield 17, 3) := by decide +kernel
theorem d_Entries_setBefore_4 : decode b_Entries_setBefore 4 = .ok (.iload_n 1, 1) := by decide +kernel
theorem d_Entries_setBefore_5 : decode b_Entries_setBefore 5 = .ok (.aaload, 1) := by decide +kernel
theorem d_Entries_setBefore_6 : decode b_Entries_setBefore 6 = .ok (.iload_n 2, 1) := by decide +kernel
theorem d_Entries_setBefore_7 : decode b_Entries_setBefore 7 = .ok (.iload_n 3, 1) := by decide +kernel
theorem d_Entries_setBefore_8 : decode b_Entries_setBefore 8 = .ok (.iastore, 1) := by decide +kernel
theorem d_Entries_setBefore_9 : decode b_Entries_setBefore 9 = .ok (.return_, 1) := by decide +kernel
theorem d_Entries_open_0 : decode b_Entries_open 0 = .ok (.aload_n 0, 1) := by decide +kernel
theorem d_Entries_open_1 : decode b_Entries_open 1 = .ok (.getfield 20, 3) := by decide +kernel
theorem d_Entries_open_4 : decode b_Entries_open 4 = .ok (.istore_n 2, 1) := by decide +kernel
theorem d_Entries_open_5 : decode b_Entries_open 5 = .ok (.aload_n 0, 1) := by decide +kernel
theorem d_Entries_open_6 : decode b_Entries_open 6 = .ok (.getfield 9, 3) := by decide +kernel
theorem d_Entries_open_9 : decode b_Entries_open 9 = .ok (.iload_n 2, 1) := by decide +kernel
theorem d_Entries_open_10 : decode b_Entries_open 10 = .ok (.iload_n 1, 1) := by decide +kernel
theorem d_Entries_open_11 : decode b_Entries_open 11 = .ok (.iastore, 1) := by decide +kernel
theorem d_Entries_open_12 : decode b_Entries_open 12 = .ok (.aload_n 0, 1) := by decide +kernel
theorem d_Entries_open_13 : decode b_Entries_open 13 = .ok (.dup, 1) := by decide +kernel
theorem d_Entries_open_14 : decode b_Entries_open 14 = .ok (.getfield 20, 3) := by decide +kernel
theorem d_Entries_open_17 : decode b_Entries_open 17 = .ok (.iconst 1, 1) := by decide +kernel
theorem d_Entries_open_18 : decode b_Entries_open 18 = .ok (.iadd, 1) := by decide +kernel
theorem d_Entries_open_19 : decode b_Entries_open 19 = .ok (.putfield 20, 3) := by decide +kernel
theorem d_Entries_open_22 : decode b_Entries_open 22 = .ok (.iload_n 2, 1) := by decide +kernel
theorem d_Entries_open_23 : decode b_Entries_open 23 = .ok (.ireturn, 1) := by decide +kernel
theorem d_Entries_clear_0 : decode b_Entries_clear 0 = .ok (.aload_n 0, 1) := by decide +kernel
theorem d_Entries_clear_1 : decode b_Entries_clear 1 = .ok (.iconst 0, 1) := by decide +kernel
theorem d_Entries_clear_2 : decode b_Entries_clear 2 = .ok (.putfield 20, 3) := by decide +kernel
theorem d_Entries_clear_5 : decode b_Entries_clear 5 = .ok (.return_, 1) := by decide +kernel
