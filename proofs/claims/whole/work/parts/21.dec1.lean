theorem d_Places_init_0 : decode b_Places_init 0 = .ok (.aload_n 0, 1) := by decide +kernel
theorem d_Places_init_1 : decode b_Places_init 1 = .ok (.invokespecial 3, 3) := by decide +kernel
theorem d_Places_init_4 : decode b_Places_init 4 = .ok (.aload_n 0, 1) := by decide +kernel
theorem d_Places_init_5 : decode b_Places_init 5 = .ok (.bipush 8, 2) := by decide +kernel
theorem d_Places_init_7 : decode b_Places_init 7 = .ok (.newarray .int, 2) := by decide +kernel
theorem d_Places_init_9 : decode b_Places_init 9 = .ok (.putfield 9, 3) := by decide +kernel
theorem d_Places_init_12 : decode b_Places_init 12 = .ok (.aload_n 0, 1) := by decide +kernel
theorem d_Places_init_13 : decode b_Places_init 13 = .ok (.iconst 0, 1) := by decide +kernel
theorem d_Places_init_14 : decode b_Places_init 14 = .ok (.putfield 15, 3) := by decide +kernel
theorem d_Places_init_17 : decode b_Places_init 17 = .ok (.return_, 1) := by decide +kernel
theorem d_Places_size_0 : decode b_Places_size 0 = .ok (.aload_n 0, 1) := by decide +kernel
theorem d_Places_size_1 : decode b_Places_size 1 = .ok (.getfield 15, 3) := by decide +kernel
theorem d_Places_size_4 : decode b_Places_size 4 = .ok (.ireturn, 1) := by decide +kernel
theorem d_Places_areFull_0 : decode b_Places_areFull 0 = .ok (.aload_n 0, 1) := by decide +kernel
theorem d_Places_areFull_1 : decode b_Places_areFull 1 = .ok (.getfield 15, 3) := by decide +kernel
theorem d_Places_areFull_4 : decode b_Places_areFull 4 = .ok (.bipush 8, 2) := by decide +kernel
theorem d_Places_areFull_6 : decode b_Places_areFull 6 = .ok (.if_icmp .ne 7, 3) := by decide +kernel
theorem d_Places_areFull_9 : decode b_Places_areFull 9 = .ok (.iconst 1, 1) := by decide +kernel
theorem d_Places_areFull_10 : decode b_Places_areFull 10 = .ok (.goto 4, 3) := by decide +kernel
theorem d_Places_areFull_13 : decode b_Places_areFull 13 = .ok (.iconst 0, 1) := by decide +kernel
theorem d_Places_areFull_14 : decode b_Places_areFull 14 = .ok (.ireturn, 1) := by decide +kernel
theorem d_Places_has_0 : decode b_Places_has 0 = .ok (.iload_n 1, 1) := by decide +kernel
theorem d_Places_has_1 : decode b_Places_has 1 = .ok (.ifCond .lt 15, 3) := by decide +kernel
theorem d_Places_has_4 : decode b_Places_has 4 = .ok (.iload_n 1, 1) := by decide +kernel
theorem d_Places_has_5 : decode b_Places_has 5 = .ok (.aload_n 0, 1) := by decide +kernel
theorem d_Places_has_6 : decode b_Places_has 6 = .ok (.getfield 15, 3) := by decide +kernel
theorem d_Places_has_9 : decode b_Places_has 9 = .ok (.if_icmp .ge 7, 3) := by decide +kernel
theorem d_Places_has_12 : decode b_Places_has 12 = .ok (.iconst 1, 1) := by decide +kernel
theorem d_Places_has_13 : decode b_Places_has 13 = .ok (.goto 4, 3) := by decide +kernel
theorem d_Places_has_16 : decode b_Places_has 16 = .ok (.iconst 0, 1) := by decide +kernel
theorem d_Places_has_17 : decode b_Places_has 17 = .ok (.ireturn, 1) := by decide +kernel
theorem d_Places_at_0 : decode b_Places_at 0 = .ok (.aload_n 0, 1) := by decide +kernel
theorem d_Places_at_1 : decode b_Places_at 1 = .ok (.getfield 9, 3) := by decide +kernel
theorem d_Places_at_4 : decode b_Places_at 4 = .ok (.iload_n 1, 1) := by decide +kernel
theorem d_Places_at_5 : decode b_Places_at 5 = .ok (.iaload, 1) := by decide +kernel
theorem d_Places_at_6 : decode b_Places_at 6 = .ok (.ireturn, 1) := by decide +kernel
theorem d_Places_push_0 : decode b_Places_push 0 = .ok (.aload_n 0, 1) := by decide +kernel
theorem d_Places_push_1 : decode b_Places_push 1 = .ok (.getfield 9, 3) := by decide +kernel
theorem d_Places_push_4 : decode b_Places_push 4 = .ok (.aload_n 0, 1) := by decide +kernel
theorem d_Places_push_5 : decode b_Places_push 5 = .ok (.getfield 15, 3) := by decide +kernel
theorem d_Places_push_8 : decode b_Places_push 8 = .ok (.iload_n 1, 1) := by decide +kernel
theorem d_Places_push_9 : decode b_Places_push 9 = .ok (.iastore, 1) := by decide +kernel
theorem d_Places_push_10 : decode b_Places_push 10 = .ok (.aload_n 0, 1) := by decide +kernel
theorem d_Places_push_11 : decode b_Places_push 11 = .ok (.dup, 1) := by decide +kernel
theorem d_Places_push_12 : decode b_Places_push 12 = .ok (.getfield 15, 3) := by decide +kernel
theorem d_Places_push_15 : decode b_Places_push 15 = .ok (.iconst 1, 1) := by decide +kernel
theorem d_Places_push_16 : decode b_Places_push 16 = .ok (.iadd, 1) := by decide +kernel
theorem d_Places_push_17 : decode b_Places_push 17 = .ok (.putfield 15, 3) := by decide +kernel
theorem d_Places_push_20 : decode b_Places_push 20 = .ok (.iload_n 1, 1) := by decide +kernel
theorem d_Places_push_21 : decode b_Places_push 21 = .ok (.ireturn, 1) := by decide +kernel
theorem d_Places_pop_0 : decode b_Places_pop 0 = .ok (.aload_n 0, 1) := by decide +kernel
theorem d_Places_pop_1 : decode b_Places_pop 1 = .ok (.dup, 1) := by decide +kernel
theorem d_Places_pop_2 : decode b_Places_pop 2 = .ok (.getfield 15, 3) := by decide +kernel
theorem d_Places_pop_5 : decode b_Places_pop 5 = .ok (.iconst 1, 1) := by decide +kernel
theorem d_Places_pop_6 : decode b_Places_pop 6 = .ok (.isub, 1) := by decide +kernel
theorem d_Places_pop_7 : decode b_Places_pop 7 = .ok (.putfield 15, 3) := by decide +kernel
theorem d_Places_pop_10 : decode b_Places_pop 10 = .ok (.aload_n 0, 1) := by decide +kernel
theorem d_Places_pop_11 : decode b_Places_pop 11 = .ok (.getfield 9, 3) := by decide +kernel
theorem d_Places_pop_14 : decode b_Places_pop 14 = .ok (.aload_n 0, 1) := by decide +kernel
theorem d_Places_pop_15 : decode b_Places_pop 15 = .ok (.getfield 15, 3) := by decide +kernel
theorem d_Places_pop_18 : decode b_Places_pop 18 = .ok (.iaload, 1) := by decide +kernel
theorem d_Places_pop_19 : decode b_Places_pop 19 = .ok (.ireturn, 1) := by decide +kernel
theorem d_Places_hold_0 : decode b_Places_hold 0 = .ok (.iconst 0, 1) := by decide +kernel
theorem d_Places_hold_1 : decode b_Places_hold 1 = .ok (.istore_n 2, 1) := by decide +kernel
theorem d_Places_hold_2 : decode b_Places_hold 2 = .ok (.iload_n 2, 1) := by decide +kernel
theorem d_Places_hold_3 : decode b_Places_hold 3 = .ok (.aload_n 0, 1) := by decide +kernel
theorem d_Places_hold_4 : decode b_Places_hold 4 = .ok (.getfield 15, 3) := by decide +kernel
theorem d_Places_hold_7 : decode b_Places_hold 7 = .ok (.if_icmp .ge 21, 3) := by decide +kernel
theorem d_Places_hold_10 : decode b_Places_hold 10 = .ok (.aload_n 0, 1) := by decide +kernel
theorem d_Places_hold_11 : decode b_Places_hold 11 = .ok (.getfield 9, 3) := by decide +kernel
theorem d_Places_hold_14 : decode b_Places_hold 14 = .ok (.iload_n 2, 1) := by decide +kernel
theorem d_Places_hold_15 : decode b_Places_hold 15 = .ok (.iaload, 1) := by decide +kernel
theorem d_Places_hold_16 : decode b_Places_hold 16 = .ok (.iload_n 1, 1) := by decide +kernel
theorem d_Places_hold_17 : decode b_Places_hold 17 = .ok (.if_icmp .ne 5, 3) := by decide +kernel
theorem d_Places_hold_20 : decode b_Places_hold 20 = .ok (.iconst 1, 1) := by decide +kernel
theorem d_Places_hold_21 : decode b_Places_hold 21 = .ok (.ireturn, 1) := by decide +kernel
theorem d_Places_hold_22 : decode b_Places_hold 22 = .ok (.iinc 2 1, 3) := by decide +kernel
theorem d_Places_hold_25 : decode b_Places_hold 25 = .ok (.goto (-23), 3) := by decide +kernel
theorem d_Places_hold_28 : decode b_Places_hold 28 = .ok (.iconst 0, 1) := by decide +kernel
theorem d_Places_hold_29 : decode b_Places_hold 29 = .ok (.ireturn, 1) := by decide +kernel
