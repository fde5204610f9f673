theorem d_M_init_0 : decode b_M_init 0 = .ok (.aload_n 0, 1) := by decide +kernel
theorem d_M_init_1 : decode b_M_init 1 = .ok (.invokespecial 1, 3) := by decide +kernel
theorem d_M_init_4 : decode b_M_init 4 = .ok (.aload_n 0, 1) := by decide +kernel
theorem d_M_init_5 : decode b_M_init 5 = .ok (.bipush 48, 2) := by decide +kernel
theorem d_M_init_7 : decode b_M_init 7 = .ok (.newarray .int, 2) := by decide +kernel
theorem d_M_init_9 : decode b_M_init 9 = .ok (.putfield 7, 3) := by decide +kernel
theorem d_M_init_12 : decode b_M_init 12 = .ok (.aload_n 0, 1) := by decide +kernel
theorem d_M_init_13 : decode b_M_init 13 = .ok (.bipush 48, 2) := by decide +kernel
theorem d_M_init_15 : decode b_M_init 15 = .ok (.newarray .int, 2) := by decide +kernel
theorem d_M_init_17 : decode b_M_init 17 = .ok (.putfield 13, 3) := by decide +kernel
theorem d_M_init_20 : decode b_M_init 20 = .ok (.aload_n 0, 1) := by decide +kernel
theorem d_M_init_21 : decode b_M_init 21 = .ok (.bipush 48, 2) := by decide +kernel
theorem d_M_init_23 : decode b_M_init 23 = .ok (.newarray .int, 2) := by decide +kernel
theorem d_M_init_25 : decode b_M_init 25 = .ok (.putfield 16, 3) := by decide +kernel
theorem d_M_init_28 : decode b_M_init 28 = .ok (.aload_n 0, 1) := by decide +kernel
theorem d_M_init_29 : decode b_M_init 29 = .ok (.bipush 48, 2) := by decide +kernel
theorem d_M_init_31 : decode b_M_init 31 = .ok (.newarray .boolean, 2) := by decide +kernel
theorem d_M_init_33 : decode b_M_init 33 = .ok (.putfield 19, 3) := by decide +kernel
theorem d_M_init_36 : decode b_M_init 36 = .ok (.aload_n 0, 1) := by decide +kernel
theorem d_M_init_37 : decode b_M_init 37 = .ok (.bipush 48, 2) := by decide +kernel
theorem d_M_init_39 : decode b_M_init 39 = .ok (.newarray .int, 2) := by decide +kernel
theorem d_M_init_41 : decode b_M_init 41 = .ok (.putfield 23, 3) := by decide +kernel
theorem d_M_init_44 : decode b_M_init 44 = .ok (.aload_n 0, 1) := by decide +kernel
theorem d_M_init_45 : decode b_M_init 45 = .ok (.bipush 8, 2) := by decide +kernel
theorem d_M_init_47 : decode b_M_init 47 = .ok (.newarray .int, 2) := by decide +kernel
theorem d_M_init_49 : decode b_M_init 49 = .ok (.putfield 26, 3) := by decide +kernel
theorem d_M_init_52 : decode b_M_init 52 = .ok (.aload_n 0, 1) := by decide +kernel
theorem d_M_init_53 : decode b_M_init 53 = .ok (.iconst 5, 1) := by decide +kernel
theorem d_M_init_54 : decode b_M_init 54 = .ok (.newarray .int, 2) := by decide +kernel
theorem d_M_init_56 : decode b_M_init 56 = .ok (.putfield 29, 3) := by decide +kernel
theorem d_M_init_59 : decode b_M_init 59 = .ok (.aload_n 0, 1) := by decide +kernel
theorem d_M_init_60 : decode b_M_init 60 = .ok (.bipush 20, 2) := by decide +kernel
theorem d_M_init_62 : decode b_M_init 62 = .ok (.newarray .int, 2) := by decide +kernel
theorem d_M_init_64 : decode b_M_init 64 = .ok (.putfield 32, 3) := by decide +kernel
theorem d_M_init_67 : decode b_M_init 67 = .ok (.return_, 1) := by decide +kernel
theorem d_M_within_0 : decode b_M_within 0 = .ok (.iload_n 0, 1) := by decide +kernel
theorem d_M_within_1 : decode b_M_within 1 = .ok (.iload_n 1, 1) := by decide +kernel
theorem d_M_within_2 : decode b_M_within 2 = .ok (.if_icmp .lt 12, 3) := by decide +kernel
theorem d_M_within_5 : decode b_M_within 5 = .ok (.iload_n 0, 1) := by decide +kernel
theorem d_M_within_6 : decode b_M_within 6 = .ok (.iload_n 2, 1) := by decide +kernel
theorem d_M_within_7 : decode b_M_within 7 = .ok (.if_icmp .gt 7, 3) := by decide +kernel
theorem d_M_within_10 : decode b_M_within 10 = .ok (.iconst 1, 1) := by decide +kernel
theorem d_M_within_11 : decode b_M_within 11 = .ok (.goto 4, 3) := by decide +kernel
theorem d_M_within_14 : decode b_M_within 14 = .ok (.iconst 0, 1) := by decide +kernel
theorem d_M_within_15 : decode b_M_within 15 = .ok (.ireturn, 1) := by decide +kernel
theorem d_M_find_0 : decode b_M_find 0 = .ok (.iconst (-1), 1) := by decide +kernel
theorem d_M_find_1 : decode b_M_find 1 = .ok (.istore_n 2, 1) := by decide +kernel
theorem d_M_find_2 : decode b_M_find 2 = .ok (.iconst 0, 1) := by decide +kernel
theorem d_M_find_3 : decode b_M_find 3 = .ok (.istore_n 3, 1) := by decide +kernel
theorem d_M_find_4 : decode b_M_find 4 = .ok (.iload_n 3, 1) := by decide +kernel
theorem d_M_find_5 : decode b_M_find 5 = .ok (.bipush 48, 2) := by decide +kernel
theorem d_M_find_7 : decode b_M_find 7 = .ok (.if_icmp .ge 34, 3) := by decide +kernel
theorem d_M_find_10 : decode b_M_find 10 = .ok (.aload_n 0, 1) := by decide +kernel
theorem d_M_find_11 : decode b_M_find 11 = .ok (.getfield 13, 3) := by decide +kernel
theorem d_M_find_14 : decode b_M_find 14 = .ok (.iload_n 3, 1) := by decide +kernel
theorem d_M_find_15 : decode b_M_find 15 = .ok (.iaload, 1) := by decide +kernel
theorem d_M_find_16 : decode b_M_find 16 = .ok (.ifCond .le 17, 3) := by decide +kernel
theorem d_M_find_19 : decode b_M_find 19 = .ok (.aload_n 0, 1) := by decide +kernel
theorem d_M_find_20 : decode b_M_find 20 = .ok (.getfield 7, 3) := by decide +kernel
theorem d_M_find_23 : decode b_M_find 23 = .ok (.iload_n 3, 1) := by decide +kernel
theorem d_M_find_24 : decode b_M_find 24 = .ok (.iaload, 1) := by decide +kernel
theorem d_M_find_25 : decode b_M_find 25 = .ok (.iload_n 1, 1) := by decide +kernel
theorem d_M_find_26 : decode b_M_find 26 = .ok (.if_icmp .ne 7, 3) := by decide +kernel
theorem d_M_find_29 : decode b_M_find 29 = .ok (.iload_n 3, 1) := by decide +kernel
theorem d_M_find_30 : decode b_M_find 30 = .ok (.goto 4, 3) := by decide +kernel
theorem d_M_find_33 : decode b_M_find 33 = .ok (.iload_n 2, 1) := by decide +kernel
theorem d_M_find_34 : decode b_M_find 34 = .ok (.istore_n 2, 1) := by decide +kernel
theorem d_M_find_35 : decode b_M_find 35 = .ok (.iinc 3 1, 3) := by decide +kernel
theorem d_M_find_38 : decode b_M_find 38 = .ok (.goto (-34), 3) := by decide +kernel
theorem d_M_find_41 : decode b_M_find 41 = .ok (.iload_n 2, 1) := by decide +kernel
theorem d_M_find_42 : decode b_M_find 42 = .ok (.ireturn, 1) := by decide +kernel
theorem d_M_holders_0 : decode b_M_holders 0 = .ok (.iconst 0, 1) := by decide +kernel
theorem d_M_holders_1 : decode b_M_holders 1 = .ok (.istore_n 2, 1) := by decide +kernel
theorem d_M_holders_2 : decode b_M_holders 2 = .ok (.iconst 0, 1) := by decide +kernel
theorem d_M_holders_3 : decode b_M_holders 3 = .ok (.istore_n 3, 1) := by decide +kernel
theorem d_M_holders_4 : decode b_M_holders 4 = .ok (.iload_n 3, 1) := by decide +kernel
theorem d_M_holders_5 : decode b_M_holders 5 = .ok (.bipush 48, 2) := by decide +kernel
theorem d_M_holders_7 : decode b_M_holders 7 = .ok (.if_icmp .ge 50, 3) := by decide +kernel
theorem d_M_holders_10 : decode b_M_holders 10 = .ok (.iconst 1, 1) := by decide +kernel
theorem d_M_holders_11 : decode b_M_holders 11 = .ok (.istore 4, 2) := by decide +kernel
theorem d_M_holders_13 : decode b_M_holders 13 = .ok (.iload 4, 2) := by decide +kernel
theorem d_M_holders_15 : decode b_M_holders 15 = .ok (.aload_n 0, 1) := by decide +kernel
theorem d_M_holders_16 : decode b_M_holders 16 = .ok (.getfield 13, 3) := by decide +kernel
theorem d_M_holders_19 : decode b_M_holders 19 = .ok (.iload_n 3, 1) := by decide +kernel
theorem d_M_holders_20 : decode b_M_holders 20 = .ok (.iaload, 1) := by decide +kernel
theorem d_M_holders_21 : decode b_M_holders 21 = .ok (.if_icmp .gt 30, 3) := by decide +kernel
theorem d_M_holders_24 : decode b_M_holders 24 = .ok (.aload_n 0, 1) := by decide +kernel
theorem d_M_holders_25 : decode b_M_holders 25 = .ok (.getfield 23, 3) := by decide +kernel
theorem d_M_holders_28 : decode b_M_holders 28 = .ok (.iload_n 3, 1) := by decide +kernel
theorem d_M_holders_29 : decode b_M_holders 29 = .ok (.iload 4, 2) := by decide +kernel
theorem d_M_holders_31 : decode b_M_holders 31 = .ok (.iadd, 1) := by decide +kernel
theorem d_M_holders_32 : decode b_M_holders 32 = .ok (.iaload, 1) := by decide +kernel
theorem d_M_holders_33 : decode b_M_holders 33 = .ok (.iload_n 1, 1) := by decide +kernel
theorem d_M_holders_34 : decode b_M_holders 34 = .ok (.if_icmp .ne 9, 3) := by decide +kernel
theorem d_M_holders_37 : decode b_M_holders 37 = .ok (.iload_n 2, 1) := by decide +kernel
theorem d_M_holders_38 : decode b_M_holders 38 = .ok (.iconst 1, 1) := by decide +kernel
theorem d_M_holders_39 : decode b_M_holders 39 = .ok (.iadd, 1) := by decide +kernel
theorem d_M_holders_40 : decode b_M_holders 40 = .ok (.goto 4, 3) := by decide +kernel
theorem d_M_holders_43 : decode b_M_holders 43 = .ok (.iload_n 2, 1) := by decide +kernel
theorem d_M_holders_44 : decode b_M_holders 44 = .ok (.istore_n 2, 1) := by decide +kernel
theorem d_M_holders_45 : decode b_M_holders 45 = .ok (.iinc 4 1, 3) := by decide +kernel
theorem d_M_holders_48 : decode b_M_holders 48 = .ok (.goto (-35), 3) := by decide +kernel
theorem d_M_holders_51 : decode b_M_holders 51 = .ok (.iinc 3 1, 3) := by decide +kernel
theorem d_M_holders_54 : decode b_M_holders 54 = .ok (.goto (-50), 3) := by decide +kernel
theorem d_M_holders_57 : decode b_M_holders 57 = .ok (.iload_n 2, 1) := by decide +kernel
theorem d_M_holders_58 : decode b_M_holders 58 = .ok (.ireturn, 1) := by decide +kernel
theorem d_M_onStack_0 : decode b_M_onStack 0 = .ok (.iconst 0, 1) := by decide +kernel
theorem d_M_onStack_1 : decode b_M_onStack 1 = .ok (.istore_n 2, 1) := by decide +kernel
theorem d_M_onStack_2 : decode b_M_onStack 2 = .ok (.iconst 0, 1) := by decide +kernel
theorem d_M_onStack_3 : decode b_M_onStack 3 = .ok (.istore_n 3, 1) := by decide +kernel
theorem d_M_onStack_4 : decode b_M_onStack 4 = .ok (.iload_n 3, 1) := by decide +kernel
theorem d_M_onStack_5 : decode b_M_onStack 5 = .ok (.aload_n 0, 1) := by decide +kernel
theorem d_M_onStack_6 : decode b_M_onStack 6 = .ok (.getfield 35, 3) := by decide +kernel
theorem d_M_onStack_9 : decode b_M_onStack 9 = .ok (.if_icmp .ge 29, 3) := by decide +kernel
theorem d_M_onStack_12 : decode b_M_onStack 12 = .ok (.iload_n 2, 1) := by decide +kernel
theorem d_M_onStack_13 : decode b_M_onStack 13 = .ok (.ifCond .ne 13, 3) := by decide +kernel
theorem d_M_onStack_16 : decode b_M_onStack 16 = .ok (.aload_n 0, 1) := by decide +kernel
theorem d_M_onStack_17 : decode b_M_onStack 17 = .ok (.getfield 26, 3) := by decide +kernel
theorem d_M_onStack_20 : decode b_M_onStack 20 = .ok (.iload_n 3, 1) := by decide +kernel
theorem d_M_onStack_21 : decode b_M_onStack 21 = .ok (.iaload, 1) := by decide +kernel
theorem d_M_onStack_22 : decode b_M_onStack 22 = .ok (.iload_n 1, 1) := by decide +kernel
theorem d_M_onStack_23 : decode b_M_onStack 23 = .ok (.if_icmp .ne 7, 3) := by decide +kernel
theorem d_M_onStack_26 : decode b_M_onStack 26 = .ok (.iconst 1, 1) := by decide +kernel
theorem d_M_onStack_27 : decode b_M_onStack 27 = .ok (.goto 4, 3) := by decide +kernel
theorem d_M_onStack_30 : decode b_M_onStack 30 = .ok (.iconst 0, 1) := by decide +kernel
theorem d_M_onStack_31 : decode b_M_onStack 31 = .ok (.istore_n 2, 1) := by decide +kernel
theorem d_M_onStack_32 : decode b_M_onStack 32 = .ok (.iinc 3 1, 3) := by decide +kernel
theorem d_M_onStack_35 : decode b_M_onStack 35 = .ok (.goto (-31), 3) := by decide +kernel
theorem d_M_onStack_38 : decode b_M_onStack 38 = .ok (.iload_n 2, 1) := by decide +kernel
theorem d_M_onStack_39 : decode b_M_onStack 39 = .ok (.ireturn, 1) := by decide +kernel
theorem d_M_recount_0 : decode b_M_recount 0 = .ok (.iconst 0, 1) := by decide +kernel
theorem d_M_recount_1 : decode b_M_recount 1 = .ok (.istore_n 1, 1) := by decide +kernel
theorem d_M_recount_2 : decode b_M_recount 2 = .ok (.iload_n 1, 1) := by decide +kernel
theorem d_M_recount_3 : decode b_M_recount 3 = .ok (.bipush 48, 2) := by decide +kernel
theorem d_M_recount_5 : decode b_M_recount 5 = .ok (.if_icmp .ge 45, 3) := by decide +kernel
theorem d_M_recount_8 : decode b_M_recount 8 = .ok (.aload_n 0, 1) := by decide +kernel
theorem d_M_recount_9 : decode b_M_recount 9 = .ok (.getfield 16, 3) := by decide +kernel
theorem d_M_recount_12 : decode b_M_recount 12 = .ok (.iload_n 1, 1) := by decide +kernel
theorem d_M_recount_13 : decode b_M_recount 13 = .ok (.aload_n 0, 1) := by decide +kernel
theorem d_M_recount_14 : decode b_M_recount 14 = .ok (.getfield 13, 3) := by decide +kernel
theorem d_M_recount_17 : decode b_M_recount 17 = .ok (.iload_n 1, 1) := by decide +kernel
theorem d_M_recount_18 : decode b_M_recount 18 = .ok (.iaload, 1) := by decide +kernel
theorem d_M_recount_19 : decode b_M_recount 19 = .ok (.ifCond .le 16, 3) := by decide +kernel
theorem d_M_recount_22 : decode b_M_recount 22 = .ok (.aload_n 0, 1) := by decide +kernel
theorem d_M_recount_23 : decode b_M_recount 23 = .ok (.aload_n 0, 1) := by decide +kernel
theorem d_M_recount_24 : decode b_M_recount 24 = .ok (.getfield 7, 3) := by decide +kernel
theorem d_M_recount_27 : decode b_M_recount 27 = .ok (.iload_n 1, 1) := by decide +kernel
theorem d_M_recount_28 : decode b_M_recount 28 = .ok (.iaload, 1) := by decide +kernel
theorem d_M_recount_29 : decode b_M_recount 29 = .ok (.invokevirtual 39, 3) := by decide +kernel
theorem d_M_recount_32 : decode b_M_recount 32 = .ok (.goto 4, 3) := by decide +kernel
theorem d_M_recount_35 : decode b_M_recount 35 = .ok (.iconst 0, 1) := by decide +kernel
theorem d_M_recount_36 : decode b_M_recount 36 = .ok (.iastore, 1) := by decide +kernel
theorem d_M_recount_37 : decode b_M_recount 37 = .ok (.aload_n 0, 1) := by decide +kernel
theorem d_M_recount_38 : decode b_M_recount 38 = .ok (.getfield 19, 3) := by decide +kernel
theorem d_M_recount_41 : decode b_M_recount 41 = .ok (.iload_n 1, 1) := by decide +kernel
theorem d_M_recount_42 : decode b_M_recount 42 = .ok (.iconst 0, 1) := by decide +kernel
theorem d_M_recount_43 : decode b_M_recount 43 = .ok (.bastore, 1) := by decide +kernel
theorem d_M_recount_44 : decode b_M_recount 44 = .ok (.iinc 1 1, 3) := by decide +kernel
theorem d_M_recount_47 : decode b_M_recount 47 = .ok (.goto (-45), 3) := by decide +kernel
theorem d_M_recount_50 : decode b_M_recount 50 = .ok (.return_, 1) := by decide +kernel
theorem d_M_round_0 : decode b_M_round 0 = .ok (.iconst 0, 1) := by decide +kernel
theorem d_M_round_1 : decode b_M_round 1 = .ok (.istore_n 1, 1) := by decide +kernel
theorem d_M_round_2 : decode b_M_round 2 = .ok (.iconst 0, 1) := by decide +kernel
theorem d_M_round_3 : decode b_M_round 3 = .ok (.istore_n 2, 1) := by decide +kernel
theorem d_M_round_4 : decode b_M_round 4 = .ok (.iload_n 2, 1) := by decide +kernel
theorem d_M_round_5 : decode b_M_round 5 = .ok (.bipush 48, 2) := by decide +kernel
theorem d_M_round_7 : decode b_M_round 7 = .ok (.if_icmp .ge 50, 3) := by decide +kernel
theorem d_M_round_10 : decode b_M_round 10 = .ok (.aload_n 0, 1) := by decide +kernel
theorem d_M_round_11 : decode b_M_round 11 = .ok (.getfield 13, 3) := by decide +kernel
theorem d_M_round_14 : decode b_M_round 14 = .ok (.iload_n 2, 1) := by decide +kernel
theorem d_M_round_15 : decode b_M_round 15 = .ok (.iaload, 1) := by decide +kernel
theorem d_M_round_16 : decode b_M_round 16 = .ok (.ifCond .le 35, 3) := by decide +kernel
theorem d_M_round_19 : decode b_M_round 19 = .ok (.aload_n 0, 1) := by decide +kernel
theorem d_M_round_20 : decode b_M_round 20 = .ok (.getfield 16, 3) := by decide +kernel
theorem d_M_round_23 : decode b_M_round 23 = .ok (.iload_n 2, 1) := by decide +kernel
theorem d_M_round_24 : decode b_M_round 24 = .ok (.iaload, 1) := by decide +kernel
theorem d_M_round_25 : decode b_M_round 25 = .ok (.ifCond .ne 26, 3) := by decide +kernel
theorem d_M_round_28 : decode b_M_round 28 = .ok (.aload_n 0, 1) := by decide +kernel
theorem d_M_round_29 : decode b_M_round 29 = .ok (.aload_n 0, 1) := by decide +kernel
theorem d_M_round_30 : decode b_M_round 30 = .ok (.getfield 7, 3) := by decide +kernel
theorem d_M_round_33 : decode b_M_round 33 = .ok (.iload_n 2, 1) := by decide +kernel
theorem d_M_round_34 : decode b_M_round 34 = .ok (.iaload, 1) := by decide +kernel
theorem d_M_round_35 : decode b_M_round 35 = .ok (.invokevirtual 43, 3) := by decide +kernel
theorem d_M_round_38 : decode b_M_round 38 = .ok (.ifCond .ne 13, 3) := by decide +kernel
theorem d_M_round_41 : decode b_M_round 41 = .ok (.aload_n 0, 1) := by decide +kernel
theorem d_M_round_42 : decode b_M_round 42 = .ok (.getfield 13, 3) := by decide +kernel
theorem d_M_round_45 : decode b_M_round 45 = .ok (.iload_n 2, 1) := by decide +kernel
theorem d_M_round_46 : decode b_M_round 46 = .ok (.iconst 0, 1) := by decide +kernel
theorem d_M_round_47 : decode b_M_round 47 = .ok (.iastore, 1) := by decide +kernel
theorem d_M_round_48 : decode b_M_round 48 = .ok (.iinc 1 1, 3) := by decide +kernel
theorem d_M_round_51 : decode b_M_round 51 = .ok (.iinc 2 1, 3) := by decide +kernel
theorem d_M_round_54 : decode b_M_round 54 = .ok (.goto (-50), 3) := by decide +kernel
theorem d_M_round_57 : decode b_M_round 57 = .ok (.iload_n 1, 1) := by decide +kernel
theorem d_M_round_58 : decode b_M_round 58 = .ok (.ireturn, 1) := by decide +kernel
theorem d_M_settle_0 : decode b_M_settle 0 = .ok (.aload_n 0, 1) := by decide +kernel
theorem d_M_settle_1 : decode b_M_settle 1 = .ok (.dup, 1) := by decide +kernel
theorem d_M_settle_2 : decode b_M_settle 2 = .ok (.getfield 47, 3) := by decide +kernel
theorem d_M_settle_5 : decode b_M_settle 5 = .ok (.iconst 1, 1) := by decide +kernel
theorem d_M_settle_6 : decode b_M_settle 6 = .ok (.iadd, 1) := by decide +kernel
theorem d_M_settle_7 : decode b_M_settle 7 = .ok (.putfield 47, 3) := by decide +kernel
theorem d_M_settle_10 : decode b_M_settle 10 = .ok (.aload_n 0, 1) := by decide +kernel
theorem d_M_settle_11 : decode b_M_settle 11 = .ok (.iconst 0, 1) := by decide +kernel
theorem d_M_settle_12 : decode b_M_settle 12 = .ok (.putfield 50, 3) := by decide +kernel
theorem d_M_settle_15 : decode b_M_settle 15 = .ok (.iconst 1, 1) := by decide +kernel
theorem d_M_settle_16 : decode b_M_settle 16 = .ok (.istore_n 1, 1) := by decide +kernel
theorem d_M_settle_17 : decode b_M_settle 17 = .ok (.iload_n 1, 1) := by decide +kernel
theorem d_M_settle_18 : decode b_M_settle 18 = .ok (.ifCond .le 15, 3) := by decide +kernel
theorem d_M_settle_21 : decode b_M_settle 21 = .ok (.aload_n 0, 1) := by decide +kernel
theorem d_M_settle_22 : decode b_M_settle 22 = .ok (.invokevirtual 53, 3) := by decide +kernel
theorem d_M_settle_25 : decode b_M_settle 25 = .ok (.aload_n 0, 1) := by decide +kernel
theorem d_M_settle_26 : decode b_M_settle 26 = .ok (.invokevirtual 56, 3) := by decide +kernel
theorem d_M_settle_29 : decode b_M_settle 29 = .ok (.istore_n 1, 1) := by decide +kernel
theorem d_M_settle_30 : decode b_M_settle 30 = .ok (.goto (-13), 3) := by decide +kernel
theorem d_M_settle_33 : decode b_M_settle 33 = .ok (.return_, 1) := by decide +kernel
theorem d_M_reckon_0 : decode b_M_reckon 0 = .ok (.aload_n 0, 1) := by decide +kernel
theorem d_M_reckon_1 : decode b_M_reckon 1 = .ok (.invokevirtual 60, 3) := by decide +kernel
theorem d_M_reckon_4 : decode b_M_reckon 4 = .ok (.istore_n 1, 1) := by decide +kernel
theorem d_M_reckon_5 : decode b_M_reckon 5 = .ok (.aload_n 0, 1) := by decide +kernel
theorem d_M_reckon_6 : decode b_M_reckon 6 = .ok (.invokevirtual 63, 3) := by decide +kernel
theorem d_M_reckon_9 : decode b_M_reckon 9 = .ok (.iload_n 1, 1) := by decide +kernel
theorem d_M_reckon_10 : decode b_M_reckon 10 = .ok (.aload_n 0, 1) := by decide +kernel
theorem d_M_reckon_11 : decode b_M_reckon 11 = .ok (.invokevirtual 60, 3) := by decide +kernel
theorem d_M_reckon_14 : decode b_M_reckon 14 = .ok (.isub, 1) := by decide +kernel
theorem d_M_reckon_15 : decode b_M_reckon 15 = .ok (.ireturn, 1) := by decide +kernel
theorem d_M_room_0 : decode b_M_room 0 = .ok (.iconst 0, 1) := by decide +kernel
theorem d_M_room_1 : decode b_M_room 1 = .ok (.istore_n 2, 1) := by decide +kernel
theorem d_M_room_2 : decode b_M_room 2 = .ok (.iconst 0, 1) := by decide +kernel
theorem d_M_room_3 : decode b_M_room 3 = .ok (.istore_n 3, 1) := by decide +kernel
theorem d_M_room_4 : decode b_M_room 4 = .ok (.iload_n 3, 1) := by decide +kernel
theorem d_M_room_5 : decode b_M_room 5 = .ok (.bipush 48, 2) := by decide +kernel
theorem d_M_room_7 : decode b_M_room 7 = .ok (.if_icmp .ge 43, 3) := by decide +kernel
theorem d_M_room_10 : decode b_M_room 10 = .ok (.aload_n 0, 1) := by decide +kernel
theorem d_M_room_11 : decode b_M_room 11 = .ok (.getfield 13, 3) := by decide +kernel
theorem d_M_room_14 : decode b_M_room 14 = .ok (.iload_n 3, 1) := by decide +kernel
theorem d_M_room_15 : decode b_M_room 15 = .ok (.iaload, 1) := by decide +kernel
theorem d_M_room_16 : decode b_M_room 16 = .ok (.ifCond .le 19, 3) := by decide +kernel
theorem d_M_room_19 : decode b_M_room 19 = .ok (.iconst 0, 1) := by decide +kernel
theorem d_M_room_20 : decode b_M_room 20 = .ok (.istore_n 2, 1) := by decide +kernel
theorem d_M_room_21 : decode b_M_room 21 = .ok (.iload_n 3, 1) := by decide +kernel
theorem d_M_room_22 : decode b_M_room 22 = .ok (.aload_n 0, 1) := by decide +kernel
theorem d_M_room_23 : decode b_M_room 23 = .ok (.getfield 13, 3) := by decide +kernel
theorem d_M_room_26 : decode b_M_room 26 = .ok (.iload_n 3, 1) := by decide +kernel
theorem d_M_room_27 : decode b_M_room 27 = .ok (.iaload, 1) := by decide +kernel
theorem d_M_room_28 : decode b_M_room 28 = .ok (.iadd, 1) := by decide +kernel
theorem d_M_room_29 : decode b_M_room 29 = .ok (.iconst 1, 1) := by decide +kernel
theorem d_M_room_30 : decode b_M_room 30 = .ok (.iadd, 1) := by decide +kernel
theorem d_M_room_31 : decode b_M_room 31 = .ok (.istore_n 3, 1) := by decide +kernel
theorem d_M_room_32 : decode b_M_room 32 = .ok (.goto (-28), 3) := by decide +kernel
theorem d_M_room_35 : decode b_M_room 35 = .ok (.iinc 2 1, 3) := by decide +kernel
theorem d_M_room_38 : decode b_M_room 38 = .ok (.iinc 3 1, 3) := by decide +kernel
theorem d_M_room_41 : decode b_M_room 41 = .ok (.iload_n 2, 1) := by decide +kernel
theorem d_M_room_42 : decode b_M_room 42 = .ok (.iload_n 1, 1) := by decide +kernel
theorem d_M_room_43 : decode b_M_room 43 = .ok (.if_icmp .ne (-39), 3) := by decide +kernel
theorem d_M_room_46 : decode b_M_room 46 = .ok (.iload_n 3, 1) := by decide +kernel
theorem d_M_room_47 : decode b_M_room 47 = .ok (.iload_n 1, 1) := by decide +kernel
theorem d_M_room_48 : decode b_M_room 48 = .ok (.isub, 1) := by decide +kernel
theorem d_M_room_49 : decode b_M_room 49 = .ok (.ireturn, 1) := by decide +kernel
theorem d_M_room_50 : decode b_M_room 50 = .ok (.iconst (-1), 1) := by decide +kernel
theorem d_M_room_51 : decode b_M_room 51 = .ok (.ireturn, 1) := by decide +kernel
theorem d_M_push_0 : decode b_M_push 0 = .ok (.aload_n 0, 1) := by decide +kernel
theorem d_M_push_1 : decode b_M_push 1 = .ok (.getfield 26, 3) := by decide +kernel
theorem d_M_push_4 : decode b_M_push 4 = .ok (.aload_n 0, 1) := by decide +kernel
theorem d_M_push_5 : decode b_M_push 5 = .ok (.getfield 35, 3) := by decide +kernel
theorem d_M_push_8 : decode b_M_push 8 = .ok (.iload_n 1, 1) := by decide +kernel
theorem d_M_push_9 : decode b_M_push 9 = .ok (.iastore, 1) := by decide +kernel
theorem d_M_push_10 : decode b_M_push 10 = .ok (.aload_n 0, 1) := by decide +kernel
theorem d_M_push_11 : decode b_M_push 11 = .ok (.dup, 1) := by decide +kernel
theorem d_M_push_12 : decode b_M_push 12 = .ok (.getfield 35, 3) := by decide +kernel
theorem d_M_push_15 : decode b_M_push 15 = .ok (.iconst 1, 1) := by decide +kernel
theorem d_M_push_16 : decode b_M_push 16 = .ok (.iadd, 1) := by decide +kernel
theorem d_M_push_17 : decode b_M_push 17 = .ok (.putfield 35, 3) := by decide +kernel
theorem d_M_push_20 : decode b_M_push 20 = .ok (.return_, 1) := by decide +kernel
theorem d_M_make_0 : decode b_M_make 0 = .ok (.iload_n 1, 1) := by decide +kernel
theorem d_M_make_1 : decode b_M_make 1 = .ok (.iconst 1, 1) := by decide +kernel
theorem d_M_make_2 : decode b_M_make 2 = .ok (.iconst 4, 1) := by decide +kernel
theorem d_M_make_3 : decode b_M_make 3 = .ok (.invokestatic 66, 3) := by decide +kernel
theorem d_M_make_6 : decode b_M_make 6 = .ok (.ifCond .ne 5, 3) := by decide +kernel
theorem d_M_make_9 : decode b_M_make 9 = .ok (.iconst (-1), 1) := by decide +kernel
theorem d_M_make_10 : decode b_M_make 10 = .ok (.ireturn, 1) := by decide +kernel
theorem d_M_make_11 : decode b_M_make 11 = .ok (.aload_n 0, 1) := by decide +kernel
theorem d_M_make_12 : decode b_M_make 12 = .ok (.getfield 35, 3) := by decide +kernel
theorem d_M_make_15 : decode b_M_make 15 = .ok (.bipush 8, 2) := by decide +kernel
theorem d_M_make_17 : decode b_M_make 17 = .ok (.if_icmp .ne 6, 3) := by decide +kernel
theorem d_M_make_20 : decode b_M_make 20 = .ok (.bipush (-2), 2) := by decide +kernel
theorem d_M_make_22 : decode b_M_make 22 = .ok (.ireturn, 1) := by decide +kernel
theorem d_M_make_23 : decode b_M_make 23 = .ok (.aload_n 0, 1) := by decide +kernel
theorem d_M_make_24 : decode b_M_make 24 = .ok (.iload_n 1, 1) := by decide +kernel
theorem d_M_make_25 : decode b_M_make 25 = .ok (.iconst 1, 1) := by decide +kernel
theorem d_M_make_26 : decode b_M_make 26 = .ok (.iadd, 1) := by decide +kernel
theorem d_M_make_27 : decode b_M_make 27 = .ok (.invokevirtual 70, 3) := by decide +kernel
theorem d_M_make_30 : decode b_M_make 30 = .ok (.istore_n 2, 1) := by decide +kernel
theorem d_M_make_31 : decode b_M_make 31 = .ok (.iload_n 2, 1) := by decide +kernel
theorem d_M_make_32 : decode b_M_make 32 = .ok (.ifCond .ge 15, 3) := by decide +kernel
theorem d_M_make_35 : decode b_M_make 35 = .ok (.aload_n 0, 1) := by decide +kernel
theorem d_M_make_36 : decode b_M_make 36 = .ok (.invokevirtual 63, 3) := by decide +kernel
theorem d_M_make_39 : decode b_M_make 39 = .ok (.aload_n 0, 1) := by decide +kernel
theorem d_M_make_40 : decode b_M_make 40 = .ok (.iload_n 1, 1) := by decide +kernel
theorem d_M_make_41 : decode b_M_make 41 = .ok (.iconst 1, 1) := by decide +kernel
theorem d_M_make_42 : decode b_M_make 42 = .ok (.iadd, 1) := by decide +kernel
theorem d_M_make_43 : decode b_M_make 43 = .ok (.invokevirtual 70, 3) := by decide +kernel
theorem d_M_make_46 : decode b_M_make 46 = .ok (.istore_n 2, 1) := by decide +kernel
theorem d_M_make_47 : decode b_M_make 47 = .ok (.iload_n 2, 1) := by decide +kernel
theorem d_M_make_48 : decode b_M_make 48 = .ok (.ifCond .ge 6, 3) := by decide +kernel
theorem d_M_make_51 : decode b_M_make 51 = .ok (.bipush (-3), 2) := by decide +kernel
theorem d_M_make_53 : decode b_M_make 53 = .ok (.ireturn, 1) := by decide +kernel
theorem d_M_make_54 : decode b_M_make 54 = .ok (.aload_n 0, 1) := by decide +kernel
theorem d_M_make_55 : decode b_M_make 55 = .ok (.dup, 1) := by decide +kernel
theorem d_M_make_56 : decode b_M_make 56 = .ok (.getfield 73, 3) := by decide +kernel
theorem d_M_make_59 : decode b_M_make 59 = .ok (.iconst 1, 1) := by decide +kernel
theorem d_M_make_60 : decode b_M_make 60 = .ok (.iadd, 1) := by decide +kernel
theorem d_M_make_61 : decode b_M_make 61 = .ok (.putfield 73, 3) := by decide +kernel
theorem d_M_make_64 : decode b_M_make 64 = .ok (.aload_n 0, 1) := by decide +kernel
theorem d_M_make_65 : decode b_M_make 65 = .ok (.getfield 7, 3) := by decide +kernel
theorem d_M_make_68 : decode b_M_make 68 = .ok (.iload_n 2, 1) := by decide +kernel
theorem d_M_make_69 : decode b_M_make 69 = .ok (.aload_n 0, 1) := by decide +kernel
theorem d_M_make_70 : decode b_M_make 70 = .ok (.getfield 73, 3) := by decide +kernel
theorem d_M_make_73 : decode b_M_make 73 = .ok (.iastore, 1) := by decide +kernel
theorem d_M_make_74 : decode b_M_make 74 = .ok (.aload_n 0, 1) := by decide +kernel
theorem d_M_make_75 : decode b_M_make 75 = .ok (.getfield 13, 3) := by decide +kernel
theorem d_M_make_78 : decode b_M_make 78 = .ok (.iload_n 2, 1) := by decide +kernel
theorem d_M_make_79 : decode b_M_make 79 = .ok (.iload_n 1, 1) := by decide +kernel
theorem d_M_make_80 : decode b_M_make 80 = .ok (.iastore, 1) := by decide +kernel
theorem d_M_make_81 : decode b_M_make 81 = .ok (.aload_n 0, 1) := by decide +kernel
theorem d_M_make_82 : decode b_M_make 82 = .ok (.getfield 16, 3) := by decide +kernel
theorem d_M_make_85 : decode b_M_make 85 = .ok (.iload_n 2, 1) := by decide +kernel
theorem d_M_make_86 : decode b_M_make 86 = .ok (.iconst 0, 1) := by decide +kernel
theorem d_M_make_87 : decode b_M_make 87 = .ok (.iastore, 1) := by decide +kernel
theorem d_M_make_88 : decode b_M_make 88 = .ok (.aload_n 0, 1) := by decide +kernel
theorem d_M_make_89 : decode b_M_make 89 = .ok (.getfield 19, 3) := by decide +kernel
theorem d_M_make_92 : decode b_M_make 92 = .ok (.iload_n 2, 1) := by decide +kernel
theorem d_M_make_93 : decode b_M_make 93 = .ok (.iconst 0, 1) := by decide +kernel
theorem d_M_make_94 : decode b_M_make 94 = .ok (.bastore, 1) := by decide +kernel
theorem d_M_make_95 : decode b_M_make 95 = .ok (.iconst 1, 1) := by decide +kernel
theorem d_M_make_96 : decode b_M_make 96 = .ok (.istore_n 3, 1) := by decide +kernel
theorem d_M_make_97 : decode b_M_make 97 = .ok (.iload_n 3, 1) := by decide +kernel
theorem d_M_make_98 : decode b_M_make 98 = .ok (.iload_n 1, 1) := by decide +kernel
theorem d_M_make_99 : decode b_M_make 99 = .ok (.if_icmp .gt 18, 3) := by decide +kernel
theorem d_M_make_102 : decode b_M_make 102 = .ok (.aload_n 0, 1) := by decide +kernel
theorem d_M_make_103 : decode b_M_make 103 = .ok (.getfield 23, 3) := by decide +kernel
theorem d_M_make_106 : decode b_M_make 106 = .ok (.iload_n 2, 1) := by decide +kernel
theorem d_M_make_107 : decode b_M_make 107 = .ok (.iload_n 3, 1) := by decide +kernel
theorem d_M_make_108 : decode b_M_make 108 = .ok (.iadd, 1) := by decide +kernel
theorem d_M_make_109 : decode b_M_make 109 = .ok (.iconst 0, 1) := by decide +kernel
theorem d_M_make_110 : decode b_M_make 110 = .ok (.iastore, 1) := by decide +kernel
theorem d_M_make_111 : decode b_M_make 111 = .ok (.iinc 3 1, 3) := by decide +kernel
theorem d_M_make_114 : decode b_M_make 114 = .ok (.goto (-17), 3) := by decide +kernel
theorem d_M_make_117 : decode b_M_make 117 = .ok (.aload_n 0, 1) := by decide +kernel
theorem d_M_make_118 : decode b_M_make 118 = .ok (.aload_n 0, 1) := by decide +kernel
theorem d_M_make_119 : decode b_M_make 119 = .ok (.getfield 73, 3) := by decide +kernel
theorem d_M_make_122 : decode b_M_make 122 = .ok (.invokevirtual 76, 3) := by decide +kernel
theorem d_M_make_125 : decode b_M_make 125 = .ok (.aload_n 0, 1) := by decide +kernel
theorem d_M_make_126 : decode b_M_make 126 = .ok (.getfield 73, 3) := by decide +kernel
theorem d_M_make_129 : decode b_M_make 129 = .ok (.ireturn, 1) := by decide +kernel
theorem d_M_isPlace_0 : decode b_M_isPlace 0 = .ok (.iload_n 1, 1) := by decide +kernel
theorem d_M_isPlace_1 : decode b_M_isPlace 1 = .ok (.iconst 0, 1) := by decide +kernel
theorem d_M_isPlace_2 : decode b_M_isPlace 2 = .ok (.aload_n 0, 1) := by decide +kernel
theorem d_M_isPlace_3 : decode b_M_isPlace 3 = .ok (.getfield 35, 3) := by decide +kernel
theorem d_M_isPlace_6 : decode b_M_isPlace 6 = .ok (.iconst 1, 1) := by decide +kernel
theorem d_M_isPlace_7 : decode b_M_isPlace 7 = .ok (.isub, 1) := by decide +kernel
theorem d_M_isPlace_8 : decode b_M_isPlace 8 = .ok (.invokestatic 66, 3) := by decide +kernel
theorem d_M_isPlace_11 : decode b_M_isPlace 11 = .ok (.ireturn, 1) := by decide +kernel
theorem d_M_copy_0 : decode b_M_copy 0 = .ok (.aload_n 0, 1) := by decide +kernel
theorem d_M_copy_1 : decode b_M_copy 1 = .ok (.iload_n 1, 1) := by decide +kernel
theorem d_M_copy_2 : decode b_M_copy 2 = .ok (.invokevirtual 80, 3) := by decide +kernel
theorem d_M_copy_5 : decode b_M_copy 5 = .ok (.ifCond .ne 5, 3) := by decide +kernel
theorem d_M_copy_8 : decode b_M_copy 8 = .ok (.iconst (-1), 1) := by decide +kernel
theorem d_M_copy_9 : decode b_M_copy 9 = .ok (.ireturn, 1) := by decide +kernel
theorem d_M_copy_10 : decode b_M_copy 10 = .ok (.aload_n 0, 1) := by decide +kernel
theorem d_M_copy_11 : decode b_M_copy 11 = .ok (.getfield 35, 3) := by decide +kernel
theorem d_M_copy_14 : decode b_M_copy 14 = .ok (.bipush 8, 2) := by decide +kernel
theorem d_M_copy_16 : decode b_M_copy 16 = .ok (.if_icmp .ne 6, 3) := by decide +kernel
theorem d_M_copy_19 : decode b_M_copy 19 = .ok (.bipush (-2), 2) := by decide +kernel
theorem d_M_copy_21 : decode b_M_copy 21 = .ok (.ireturn, 1) := by decide +kernel
theorem d_M_copy_22 : decode b_M_copy 22 = .ok (.aload_n 0, 1) := by decide +kernel
theorem d_M_copy_23 : decode b_M_copy 23 = .ok (.aload_n 0, 1) := by decide +kernel
theorem d_M_copy_24 : decode b_M_copy 24 = .ok (.getfield 26, 3) := by decide +kernel
theorem d_M_copy_27 : decode b_M_copy 27 = .ok (.iload_n 1, 1) := by decide +kernel
theorem d_M_copy_28 : decode b_M_copy 28 = .ok (.iaload, 1) := by decide +kernel
theorem d_M_copy_29 : decode b_M_copy 29 = .ok (.invokevirtual 76, 3) := by decide +kernel
theorem d_M_copy_32 : decode b_M_copy 32 = .ok (.aload_n 0, 1) := by decide +kernel
theorem d_M_copy_33 : decode b_M_copy 33 = .ok (.getfield 26, 3) := by decide +kernel
theorem d_M_copy_36 : decode b_M_copy 36 = .ok (.iload_n 1, 1) := by decide +kernel
theorem d_M_copy_37 : decode b_M_copy 37 = .ok (.iaload, 1) := by decide +kernel
theorem d_M_copy_38 : decode b_M_copy 38 = .ok (.ireturn, 1) := by decide +kernel
theorem d_M_slotCell_0 : decode b_M_slotCell 0 = .ok (.aload_n 0, 1) := by decide +kernel
theorem d_M_slotCell_1 : decode b_M_slotCell 1 = .ok (.iload_n 1, 1) := by decide +kernel
theorem d_M_slotCell_2 : decode b_M_slotCell 2 = .ok (.invokevirtual 80, 3) := by decide +kernel
theorem d_M_slotCell_5 : decode b_M_slotCell 5 = .ok (.ifCond .eq 25, 3) := by decide +kernel
theorem d_M_slotCell_8 : decode b_M_slotCell 8 = .ok (.aload_n 0, 1) := by decide +kernel
theorem d_M_slotCell_9 : decode b_M_slotCell 9 = .ok (.getfield 26, 3) := by decide +kernel
theorem d_M_slotCell_12 : decode b_M_slotCell 12 = .ok (.iload_n 1, 1) := by decide +kernel
theorem d_M_slotCell_13 : decode b_M_slotCell 13 = .ok (.iaload, 1) := by decide +kernel
theorem d_M_slotCell_14 : decode b_M_slotCell 14 = .ok (.ifCond .le 16, 3) := by decide +kernel
theorem d_M_slotCell_17 : decode b_M_slotCell 17 = .ok (.aload_n 0, 1) := by decide +kernel
theorem d_M_slotCell_18 : decode b_M_slotCell 18 = .ok (.aload_n 0, 1) := by decide +kernel
theorem d_M_slotCell_19 : decode b_M_slotCell 19 = .ok (.getfield 26, 3) := by decide +kernel
theorem d_M_slotCell_22 : decode b_M_slotCell 22 = .ok (.iload_n 1, 1) := by decide +kernel
theorem d_M_slotCell_23 : decode b_M_slotCell 23 = .ok (.iaload, 1) := by decide +kernel
theorem d_M_slotCell_24 : decode b_M_slotCell 24 = .ok (.invokevirtual 83, 3) := by decide +kernel
theorem d_M_slotCell_27 : decode b_M_slotCell 27 = .ok (.goto 4, 3) := by decide +kernel
theorem d_M_slotCell_30 : decode b_M_slotCell 30 = .ok (.iconst (-1), 1) := by decide +kernel
theorem d_M_slotCell_31 : decode b_M_slotCell 31 = .ok (.istore_n 3, 1) := by decide +kernel
theorem d_M_slotCell_32 : decode b_M_slotCell 32 = .ok (.iload_n 3, 1) := by decide +kernel
theorem d_M_slotCell_33 : decode b_M_slotCell 33 = .ok (.ifCond .lt 27, 3) := by decide +kernel
theorem d_M_slotCell_36 : decode b_M_slotCell 36 = .ok (.iload_n 2, 1) := by decide +kernel
theorem d_M_slotCell_37 : decode b_M_slotCell 37 = .ok (.iconst 0, 1) := by decide +kernel
theorem d_M_slotCell_38 : decode b_M_slotCell 38 = .ok (.aload_n 0, 1) := by decide +kernel
theorem d_M_slotCell_39 : decode b_M_slotCell 39 = .ok (.getfield 13, 3) := by decide +kernel
theorem d_M_slotCell_42 : decode b_M_slotCell 42 = .ok (.iload_n 3, 1) := by decide +kernel
theorem d_M_slotCell_43 : decode b_M_slotCell 43 = .ok (.iaload, 1) := by decide +kernel
theorem d_M_slotCell_44 : decode b_M_slotCell 44 = .ok (.iconst 1, 1) := by decide +kernel
theorem d_M_slotCell_45 : decode b_M_slotCell 45 = .ok (.isub, 1) := by decide +kernel
theorem d_M_slotCell_46 : decode b_M_slotCell 46 = .ok (.invokestatic 66, 3) := by decide +kernel
theorem d_M_slotCell_49 : decode b_M_slotCell 49 = .ok (.ifCond .eq 11, 3) := by decide +kernel
theorem d_M_slotCell_52 : decode b_M_slotCell 52 = .ok (.iload_n 3, 1) := by decide +kernel
theorem d_M_slotCell_53 : decode b_M_slotCell 53 = .ok (.iconst 1, 1) := by decide +kernel
theorem d_M_slotCell_54 : decode b_M_slotCell 54 = .ok (.iadd, 1) := by decide +kernel
theorem d_M_slotCell_55 : decode b_M_slotCell 55 = .ok (.iload_n 2, 1) := by decide +kernel
theorem d_M_slotCell_56 : decode b_M_slotCell 56 = .ok (.iadd, 1) := by decide +kernel
theorem d_M_slotCell_57 : decode b_M_slotCell 57 = .ok (.goto 4, 3) := by decide +kernel
theorem d_M_slotCell_60 : decode b_M_slotCell 60 = .ok (.iconst (-1), 1) := by decide +kernel
theorem d_M_slotCell_61 : decode b_M_slotCell 61 = .ok (.ireturn, 1) := by decide +kernel
theorem d_M_load_0 : decode b_M_load 0 = .ok (.aload_n 0, 1) := by decide +kernel
theorem d_M_load_1 : decode b_M_load 1 = .ok (.iload_n 1, 1) := by decide +kernel
theorem d_M_load_2 : decode b_M_load 2 = .ok (.iload_n 2, 1) := by decide +kernel
theorem d_M_load_3 : decode b_M_load 3 = .ok (.invokevirtual 86, 3) := by decide +kernel
theorem d_M_load_6 : decode b_M_load 6 = .ok (.istore_n 3, 1) := by decide +kernel
theorem d_M_load_7 : decode b_M_load 7 = .ok (.iload_n 3, 1) := by decide +kernel
theorem d_M_load_8 : decode b_M_load 8 = .ok (.ifCond .ge 5, 3) := by decide +kernel
theorem d_M_load_11 : decode b_M_load 11 = .ok (.iconst (-1), 1) := by decide +kernel
theorem d_M_load_12 : decode b_M_load 12 = .ok (.ireturn, 1) := by decide +kernel
theorem d_M_load_13 : decode b_M_load 13 = .ok (.aload_n 0, 1) := by decide +kernel
theorem d_M_load_14 : decode b_M_load 14 = .ok (.getfield 35, 3) := by decide +kernel
theorem d_M_load_17 : decode b_M_load 17 = .ok (.bipush 8, 2) := by decide +kernel
theorem d_M_load_19 : decode b_M_load 19 = .ok (.if_icmp .ne 6, 3) := by decide +kernel
theorem d_M_load_22 : decode b_M_load 22 = .ok (.bipush (-2), 2) := by decide +kernel
theorem d_M_load_24 : decode b_M_load 24 = .ok (.ireturn, 1) := by decide +kernel
theorem d_M_load_25 : decode b_M_load 25 = .ok (.aload_n 0, 1) := by decide +kernel
theorem d_M_load_26 : decode b_M_load 26 = .ok (.aload_n 0, 1) := by decide +kernel
theorem d_M_load_27 : decode b_M_load 27 = .ok (.getfield 23, 3) := by decide +kernel
theorem d_M_load_30 : decode b_M_load 30 = .ok (.iload_n 3, 1) := by decide +kernel
theorem d_M_load_31 : decode b_M_load 31 = .ok (.iaload, 1) := by decide +kernel
theorem d_M_load_32 : decode b_M_load 32 = .ok (.invokevirtual 76, 3) := by decide +kernel
theorem d_M_load_35 : decode b_M_load 35 = .ok (.aload_n 0, 1) := by decide +kernel
theorem d_M_load_36 : decode b_M_load 36 = .ok (.getfield 23, 3) := by decide +kernel
theorem d_M_load_39 : decode b_M_load 39 = .ok (.iload_n 3, 1) := by decide +kernel
theorem d_M_load_40 : decode b_M_load 40 = .ok (.iaload, 1) := by decide +kernel
theorem d_M_load_41 : decode b_M_load 41 = .ok (.ireturn, 1) := by decide +kernel
theorem d_M_makeRoom_0 : decode b_M_makeRoom 0 = .ok (.aload_n 0, 1) := by decide +kernel
theorem d_M_makeRoom_1 : decode b_M_makeRoom 1 = .ok (.getfield 50, 3) := by decide +kernel
theorem d_M_makeRoom_4 : decode b_M_makeRoom 4 = .ok (.iconst 5, 1) := by decide +kernel
theorem d_M_makeRoom_5 : decode b_M_makeRoom 5 = .ok (.if_icmp .ne 7, 3) := by decide +kernel
theorem d_M_makeRoom_8 : decode b_M_makeRoom 8 = .ok (.aload_n 0, 1) := by decide +kernel
theorem d_M_makeRoom_9 : decode b_M_makeRoom 9 = .ok (.invokevirtual 63, 3) := by decide +kernel
theorem d_M_makeRoom_12 : decode b_M_makeRoom 12 = .ok (.return_, 1) := by decide +kernel
theorem d_M_note_0 : decode b_M_note 0 = .ok (.aload_n 0, 1) := by decide +kernel
theorem d_M_note_1 : decode b_M_note 1 = .ok (.getfield 29, 3) := by decide +kernel
theorem d_M_note_4 : decode b_M_note 4 = .ok (.aload_n 0, 1) := by decide +kernel
theorem d_M_note_5 : decode b_M_note 5 = .ok (.getfield 50, 3) := by decide +kernel
theorem d_M_note_8 : decode b_M_note 8 = .ok (.aload_n 0, 1) := by decide +kernel
theorem d_M_note_9 : decode b_M_note 9 = .ok (.getfield 7, 3) := by decide +kernel
theorem d_M_note_12 : decode b_M_note 12 = .ok (.iload_n 1, 1) := by decide +kernel
theorem d_M_note_13 : decode b_M_note 13 = .ok (.iaload, 1) := by decide +kernel
theorem d_M_note_14 : decode b_M_note 14 = .ok (.iastore, 1) := by decide +kernel
theorem d_M_note_15 : decode b_M_note 15 = .ok (.iconst 0, 1) := by decide +kernel
theorem d_M_note_16 : decode b_M_note 16 = .ok (.istore_n 2, 1) := by decide +kernel
theorem d_M_note_17 : decode b_M_note 17 = .ok (.iload_n 2, 1) := by decide +kernel
theorem d_M_note_18 : decode b_M_note 18 = .ok (.iconst 4, 1) := by decide +kernel
theorem d_M_note_19 : decode b_M_note 19 = .ok (.if_icmp .ge 46, 3) := by decide +kernel
theorem d_M_note_22 : decode b_M_note 22 = .ok (.aload_n 0, 1) := by decide +kernel
theorem d_M_note_23 : decode b_M_note 23 = .ok (.getfield 32, 3) := by decide +kernel
theorem d_M_note_26 : decode b_M_note 26 = .ok (.iconst 4, 1) := by decide +kernel
theorem d_M_note_27 : decode b_M_note 27 = .ok (.aload_n 0, 1) := by decide +kernel
theorem d_M_note_28 : decode b_M_note 28 = .ok (.getfield 50, 3) := by decide +kernel
theorem d_M_note_31 : decode b_M_note 31 = .ok (.imul, 1) := by decide +kernel
theorem d_M_note_32 : decode b_M_note 32 = .ok (.iload_n 2, 1) := by decide +kernel
theorem d_M_note_33 : decode b_M_note 33 = .ok (.iadd, 1) := by decide +kernel
theorem d_M_note_34 : decode b_M_note 34 = .ok (.iload_n 2, 1) := by decide +kernel
theorem d_M_note_35 : decode b_M_note 35 = .ok (.aload_n 0, 1) := by decide +kernel
theorem d_M_note_36 : decode b_M_note 36 = .ok (.getfield 13, 3) := by decide +kernel
theorem d_M_note_39 : decode b_M_note 39 = .ok (.iload_n 1, 1) := by decide +kernel
theorem d_M_note_40 : decode b_M_note 40 = .ok (.iaload, 1) := by decide +kernel
theorem d_M_note_41 : decode b_M_note 41 = .ok (.if_icmp .ge 16, 3) := by decide +kernel
theorem d_M_note_44 : decode b_M_note 44 = .ok (.aload_n 0, 1) := by decide +kernel
theorem d_M_note_45 : decode b_M_note 45 = .ok (.getfield 23, 3) := by decide +kernel
theorem d_M_note_48 : decode b_M_note 48 = .ok (.iload_n 1, 1) := by decide +kernel
theorem d_M_note_49 : decode b_M_note 49 = .ok (.iconst 1, 1) := by decide +kernel
theorem d_M_note_50 : decode b_M_note 50 = .ok (.iadd, 1) := by decide +kernel
theorem d_M_note_51 : decode b_M_note 51 = .ok (.iload_n 2, 1) := by decide +kernel
theorem d_M_note_52 : decode b_M_note 52 = .ok (.iadd, 1) := by decide +kernel
theorem d_M_note_53 : decode b_M_note 53 = .ok (.iaload, 1) := by decide +kernel
theorem d_M_note_54 : decode b_M_note 54 = .ok (.goto 4, 3) := by decide +kernel
theorem d_M_note_57 : decode b_M_note 57 = .ok (.iconst 0, 1) := by decide +kernel
theorem d_M_note_58 : decode b_M_note 58 = .ok (.iastore, 1) := by decide +kernel
theorem d_M_note_59 : decode b_M_note 59 = .ok (.iinc 2 1, 3) := by decide +kernel
theorem d_M_note_62 : decode b_M_note 62 = .ok (.goto (-45), 3) := by decide +kernel
theorem d_M_note_65 : decode b_M_note 65 = .ok (.aload_n 0, 1) := by decide +kernel
theorem d_M_note_66 : decode b_M_note 66 = .ok (.dup, 1) := by decide +kernel
theorem d_M_note_67 : decode b_M_note 67 = .ok (.getfield 50, 3) := by decide +kernel
theorem d_M_note_70 : decode b_M_note 70 = .ok (.iconst 1, 1) := by decide +kernel
theorem d_M_note_71 : decode b_M_note 71 = .ok (.iadd, 1) := by decide +kernel
theorem d_M_note_72 : decode b_M_note 72 = .ok (.putfield 50, 3) := by decide +kernel
theorem d_M_note_75 : decode b_M_note 75 = .ok (.aload_n 0, 1) := by decide +kernel
theorem d_M_note_76 : decode b_M_note 76 = .ok (.getfield 19, 3) := by decide +kernel
theorem d_M_note_79 : decode b_M_note 79 = .ok (.iload_n 1, 1) := by decide +kernel
theorem d_M_note_80 : decode b_M_note 80 = .ok (.iconst 1, 1) := by decide +kernel
theorem d_M_note_81 : decode b_M_note 81 = .ok (.bastore, 1) := by decide +kernel
theorem d_M_note_82 : decode b_M_note 82 = .ok (.return_, 1) := by decide +kernel
theorem d_M_store_0 : decode b_M_store 0 = .ok (.aload_n 0, 1) := by decide +kernel
theorem d_M_store_1 : decode b_M_store 1 = .ok (.iload_n 1, 1) := by decide +kernel
theorem d_M_store_2 : decode b_M_store 2 = .ok (.iload_n 2, 1) := by decide +kernel
theorem d_M_store_3 : decode b_M_store 3 = .ok (.invokevirtual 86, 3) := by decide +kernel
theorem d_M_store_6 : decode b_M_store 6 = .ok (.istore 4, 2) := by decide +kernel
theorem d_M_store_8 : decode b_M_store 8 = .ok (.iload 4, 2) := by decide +kernel
theorem d_M_store_10 : decode b_M_store 10 = .ok (.ifCond .lt 16, 3) := by decide +kernel
theorem d_M_store_13 : decode b_M_store 13 = .ok (.iload_n 3, 1) := by decide +kernel
theorem d_M_store_14 : decode b_M_store 14 = .ok (.iconst (-1), 1) := by decide +kernel
theorem d_M_store_15 : decode b_M_store 15 = .ok (.if_icmp .eq 13, 3) := by decide +kernel
theorem d_M_store_18 : decode b_M_store 18 = .ok (.aload_n 0, 1) := by decide +kernel
theorem d_M_store_19 : decode b_M_store 19 = .ok (.iload_n 3, 1) := by decide +kernel
theorem d_M_store_20 : decode b_M_store 20 = .ok (.invokevirtual 80, 3) := by decide +kernel
theorem d_M_store_23 : decode b_M_store 23 = .ok (.ifCond .ne 5, 3) := by decide +kernel
theorem d_M_store_26 : decode b_M_store 26 = .ok (.iconst 0, 1) := by decide +kernel
theorem d_M_store_27 : decode b_M_store 27 = .ok (.ireturn, 1) := by decide +kernel
theorem d_M_store_28 : decode b_M_store 28 = .ok (.iload 4, 2) := by decide +kernel
theorem d_M_store_30 : decode b_M_store 30 = .ok (.iconst 1, 1) := by decide +kernel
theorem d_M_store_31 : decode b_M_store 31 = .ok (.isub, 1) := by decide +kernel
theorem d_M_store_32 : decode b_M_store 32 = .ok (.iload_n 2, 1) := by decide +kernel
theorem d_M_store_33 : decode b_M_store 33 = .ok (.isub, 1) := by decide +kernel
theorem d_M_store_34 : decode b_M_store 34 = .ok (.istore 5, 2) := by decide +kernel
theorem d_M_store_36 : decode b_M_store 36 = .ok (.aload_n 0, 1) := by decide +kernel
theorem d_M_store_37 : decode b_M_store 37 = .ok (.getfield 19, 3) := by decide +kernel
theorem d_M_store_40 : decode b_M_store 40 = .ok (.iload 5, 2) := by decide +kernel
theorem d_M_store_42 : decode b_M_store 42 = .ok (.baload, 1) := by decide +kernel
theorem d_M_store_43 : decode b_M_store 43 = .ok (.ifCond .ne 13, 3) := by decide +kernel
theorem d_M_store_46 : decode b_M_store 46 = .ok (.aload_n 0, 1) := by decide +kernel
theorem d_M_store_47 : decode b_M_store 47 = .ok (.invokevirtual 90, 3) := by decide +kernel
theorem d_M_store_50 : decode b_M_store 50 = .ok (.aload_n 0, 1) := by decide +kernel
theorem d_M_store_51 : decode b_M_store 51 = .ok (.iload 5, 2) := by decide +kernel
theorem d_M_store_53 : decode b_M_store 53 = .ok (.invokevirtual 93, 3) := by decide +kernel
theorem d_M_store_56 : decode b_M_store 56 = .ok (.aload_n 0, 1) := by decide +kernel
theorem d_M_store_57 : decode b_M_store 57 = .ok (.getfield 23, 3) := by decide +kernel
theorem d_M_store_60 : decode b_M_store 60 = .ok (.iload 4, 2) := by decide +kernel
theorem d_M_store_62 : decode b_M_store 62 = .ok (.iload_n 3, 1) := by decide +kernel
theorem d_M_store_63 : decode b_M_store 63 = .ok (.ifCond .ge 7, 3) := by decide +kernel
theorem d_M_store_66 : decode b_M_store 66 = .ok (.iconst 0, 1) := by decide +kernel
theorem d_M_store_67 : decode b_M_store 67 = .ok (.goto 9, 3) := by decide +kernel
theorem d_M_store_70 : decode b_M_store 70 = .ok (.aload_n 0, 1) := by decide +kernel
theorem d_M_store_71 : decode b_M_store 71 = .ok (.getfield 26, 3) := by decide +kernel
theorem d_M_store_74 : decode b_M_store 74 = .ok (.iload_n 3, 1) := by decide +kernel
theorem d_M_store_75 : decode b_M_store 75 = .ok (.iaload, 1) := by decide +kernel
theorem d_M_store_76 : decode b_M_store 76 = .ok (.iastore, 1) := by decide +kernel
theorem d_M_store_77 : decode b_M_store 77 = .ok (.iconst 1, 1) := by decide +kernel
theorem d_M_store_78 : decode b_M_store 78 = .ok (.ireturn, 1) := by decide +kernel
theorem d_M_drop_0 : decode b_M_drop 0 = .ok (.aload_n 0, 1) := by decide +kernel
theorem d_M_drop_1 : decode b_M_drop 1 = .ok (.getfield 35, 3) := by decide +kernel
theorem d_M_drop_4 : decode b_M_drop 4 = .ok (.ifCond .ne 5, 3) := by decide +kernel
theorem d_M_drop_7 : decode b_M_drop 7 = .ok (.iconst (-1), 1) := by decide +kernel
theorem d_M_drop_8 : decode b_M_drop 8 = .ok (.ireturn, 1) := by decide +kernel
theorem d_M_drop_9 : decode b_M_drop 9 = .ok (.aload_n 0, 1) := by decide +kernel
theorem d_M_drop_10 : decode b_M_drop 10 = .ok (.dup, 1) := by decide +kernel
theorem d_M_drop_11 : decode b_M_drop 11 = .ok (.getfield 35, 3) := by decide +kernel
theorem d_M_drop_14 : decode b_M_drop 14 = .ok (.iconst 1, 1) := by decide +kernel
theorem d_M_drop_15 : decode b_M_drop 15 = .ok (.isub, 1) := by decide +kernel
theorem d_M_drop_16 : decode b_M_drop 16 = .ok (.putfield 35, 3) := by decide +kernel
theorem d_M_drop_19 : decode b_M_drop 19 = .ok (.aload_n 0, 1) := by decide +kernel
theorem d_M_drop_20 : decode b_M_drop 20 = .ok (.getfield 26, 3) := by decide +kernel
theorem d_M_drop_23 : decode b_M_drop 23 = .ok (.aload_n 0, 1) := by decide +kernel
theorem d_M_drop_24 : decode b_M_drop 24 = .ok (.getfield 35, 3) := by decide +kernel
theorem d_M_drop_27 : decode b_M_drop 27 = .ok (.iaload, 1) := by decide +kernel
theorem d_M_drop_28 : decode b_M_drop 28 = .ok (.ireturn, 1) := by decide +kernel
theorem d_M_stack_0 : decode b_M_stack 0 = .ok (.aload_n 0, 1) := by decide +kernel
theorem d_M_stack_1 : decode b_M_stack 1 = .ok (.getfield 35, 3) := by decide +kernel
theorem d_M_stack_4 : decode b_M_stack 4 = .ok (.ireturn, 1) := by decide +kernel
theorem d_M_held_0 : decode b_M_held 0 = .ok (.aload_n 0, 1) := by decide +kernel
theorem d_M_held_1 : decode b_M_held 1 = .ok (.iload_n 1, 1) := by decide +kernel
theorem d_M_held_2 : decode b_M_held 2 = .ok (.invokevirtual 80, 3) := by decide +kernel
theorem d_M_held_5 : decode b_M_held 5 = .ok (.ifCond .eq 12, 3) := by decide +kernel
theorem d_M_held_8 : decode b_M_held 8 = .ok (.aload_n 0, 1) := by decide +kernel
theorem d_M_held_9 : decode b_M_held 9 = .ok (.getfield 26, 3) := by decide +kernel
theorem d_M_held_12 : decode b_M_held 12 = .ok (.iload_n 1, 1) := by decide +kernel
theorem d_M_held_13 : decode b_M_held 13 = .ok (.iaload, 1) := by decide +kernel
theorem d_M_held_14 : decode b_M_held 14 = .ok (.goto 4, 3) := by decide +kernel
theorem d_M_held_17 : decode b_M_held 17 = .ok (.iconst (-1), 1) := by decide +kernel
theorem d_M_held_18 : decode b_M_held 18 = .ok (.ireturn, 1) := by decide +kernel
theorem d_M_alive_0 : decode b_M_alive 0 = .ok (.iconst 0, 1) := by decide +kernel
theorem d_M_alive_1 : decode b_M_alive 1 = .ok (.istore_n 1, 1) := by decide +kernel
theorem d_M_alive_2 : decode b_M_alive 2 = .ok (.iconst 0, 1) := by decide +kernel
theorem d_M_alive_3 : decode b_M_alive 3 = .ok (.istore_n 2, 1) := by decide +kernel
theorem d_M_alive_4 : decode b_M_alive 4 = .ok (.iload_n 2, 1) := by decide +kernel
theorem d_M_alive_5 : decode b_M_alive 5 = .ok (.bipush 48, 2) := by decide +kernel
theorem d_M_alive_7 : decode b_M_alive 7 = .ok (.if_icmp .ge 26, 3) := by decide +kernel
theorem d_M_alive_10 : decode b_M_alive 10 = .ok (.aload_n 0, 1) := by decide +kernel
theorem d_M_alive_11 : decode b_M_alive 11 = .ok (.getfield 13, 3) := by decide +kernel
theorem d_M_alive_14 : decode b_M_alive 14 = .ok (.iload_n 2, 1) := by decide +kernel
theorem d_M_alive_15 : decode b_M_alive 15 = .ok (.iaload, 1) := by decide +kernel
theorem d_M_alive_16 : decode b_M_alive 16 = .ok (.ifCond .le 9, 3) := by decide +kernel
theorem d_M_alive_19 : decode b_M_alive 19 = .ok (.iload_n 1, 1) := by decide +kernel
theorem d_M_alive_20 : decode b_M_alive 20 = .ok (.iconst 1, 1) := by decide +kernel
theorem d_M_alive_21 : decode b_M_alive 21 = .ok (.iadd, 1) := by decide +kernel
theorem d_M_alive_22 : decode b_M_alive 22 = .ok (.goto 4, 3) := by decide +kernel
theorem d_M_alive_25 : decode b_M_alive 25 = .ok (.iload_n 1, 1) := by decide +kernel
theorem d_M_alive_26 : decode b_M_alive 26 = .ok (.istore_n 1, 1) := by decide +kernel
theorem d_M_alive_27 : decode b_M_alive 27 = .ok (.iinc 2 1, 3) := by decide +kernel
theorem d_M_alive_30 : decode b_M_alive 30 = .ok (.goto (-26), 3) := by decide +kernel
theorem d_M_alive_33 : decode b_M_alive 33 = .ok (.iload_n 1, 1) := by decide +kernel
theorem d_M_alive_34 : decode b_M_alive 34 = .ok (.ireturn, 1) := by decide +kernel
theorem d_M_count_0 : decode b_M_count 0 = .ok (.aload_n 0, 1) := by decide +kernel
theorem d_M_count_1 : decode b_M_count 1 = .ok (.iload_n 1, 1) := by decide +kernel
theorem d_M_count_2 : decode b_M_count 2 = .ok (.invokevirtual 83, 3) := by decide +kernel
theorem d_M_count_5 : decode b_M_count 5 = .ok (.istore_n 2, 1) := by decide +kernel
theorem d_M_count_6 : decode b_M_count 6 = .ok (.iload_n 2, 1) := by decide +kernel
theorem d_M_count_7 : decode b_M_count 7 = .ok (.ifCond .ge 8, 3) := by decide +kernel
theorem d_M_count_10 : decode b_M_count 10 = .ok (.bipush (-3), 2) := by decide +kernel
theorem d_M_count_12 : decode b_M_count 12 = .ok (.goto 9, 3) := by decide +kernel
theorem d_M_count_15 : decode b_M_count 15 = .ok (.aload_n 0, 1) := by decide +kernel
theorem d_M_count_16 : decode b_M_count 16 = .ok (.getfield 16, 3) := by decide +kernel
theorem d_M_count_19 : decode b_M_count 19 = .ok (.iload_n 2, 1) := by decide +kernel
theorem d_M_count_20 : decode b_M_count 20 = .ok (.iaload, 1) := by decide +kernel
theorem d_M_count_21 : decode b_M_count 21 = .ok (.ireturn, 1) := by decide +kernel
theorem d_M_cell_0 : decode b_M_cell 0 = .ok (.aload_n 0, 1) := by decide +kernel
theorem d_M_cell_1 : decode b_M_cell 1 = .ok (.iload_n 1, 1) := by decide +kernel
theorem d_M_cell_2 : decode b_M_cell 2 = .ok (.invokevirtual 83, 3) := by decide +kernel
theorem d_M_cell_5 : decode b_M_cell 5 = .ok (.istore_n 2, 1) := by decide +kernel
theorem d_M_cell_6 : decode b_M_cell 6 = .ok (.iload_n 2, 1) := by decide +kernel
theorem d_M_cell_7 : decode b_M_cell 7 = .ok (.ifCond .ge 8, 3) := by decide +kernel
theorem d_M_cell_10 : decode b_M_cell 10 = .ok (.bipush (-3), 2) := by decide +kernel
theorem d_M_cell_12 : decode b_M_cell 12 = .ok (.goto 4, 3) := by decide +kernel
theorem d_M_cell_15 : decode b_M_cell 15 = .ok (.iload_n 2, 1) := by decide +kernel
theorem d_M_cell_16 : decode b_M_cell 16 = .ok (.ireturn, 1) := by decide +kernel
theorem d_M_slot_0 : decode b_M_slot 0 = .ok (.aload_n 0, 1) := by decide +kernel
theorem d_M_slot_1 : decode b_M_slot 1 = .ok (.iload_n 1, 1) := by decide +kernel
theorem d_M_slot_2 : decode b_M_slot 2 = .ok (.invokevirtual 83, 3) := by decide +kernel
theorem d_M_slot_5 : decode b_M_slot 5 = .ok (.istore_n 3, 1) := by decide +kernel
theorem d_M_slot_6 : decode b_M_slot 6 = .ok (.iload_n 3, 1) := by decide +kernel
theorem d_M_slot_7 : decode b_M_slot 7 = .ok (.ifCond .ge 8, 3) := by decide +kernel
theorem d_M_slot_10 : decode b_M_slot 10 = .ok (.bipush (-3), 2) := by decide +kernel
theorem d_M_slot_12 : decode b_M_slot 12 = .ok (.goto 33, 3) := by decide +kernel
theorem d_M_slot_15 : decode b_M_slot 15 = .ok (.iload_n 2, 1) := by decide +kernel
theorem d_M_slot_16 : decode b_M_slot 16 = .ok (.iconst 0, 1) := by decide +kernel
theorem d_M_slot_17 : decode b_M_slot 17 = .ok (.aload_n 0, 1) := by decide +kernel
theorem d_M_slot_18 : decode b_M_slot 18 = .ok (.getfield 13, 3) := by decide +kernel
theorem d_M_slot_21 : decode b_M_slot 21 = .ok (.iload_n 3, 1) := by decide +kernel
theorem d_M_slot_22 : decode b_M_slot 22 = .ok (.iaload, 1) := by decide +kernel
theorem d_M_slot_23 : decode b_M_slot 23 = .ok (.iconst 1, 1) := by decide +kernel
theorem d_M_slot_24 : decode b_M_slot 24 = .ok (.isub, 1) := by decide +kernel
theorem d_M_slot_25 : decode b_M_slot 25 = .ok (.invokestatic 66, 3) := by decide +kernel
theorem d_M_slot_28 : decode b_M_slot 28 = .ok (.ifCond .eq 16, 3) := by decide +kernel
theorem d_M_slot_31 : decode b_M_slot 31 = .ok (.aload_n 0, 1) := by decide +kernel
theorem d_M_slot_32 : decode b_M_slot 32 = .ok (.getfield 23, 3) := by decide +kernel
theorem d_M_slot_35 : decode b_M_slot 35 = .ok (.iload_n 3, 1) := by decide +kernel
theorem d_M_slot_36 : decode b_M_slot 36 = .ok (.iconst 1, 1) := by decide +kernel
theorem d_M_slot_37 : decode b_M_slot 37 = .ok (.iadd, 1) := by decide +kernel
theorem d_M_slot_38 : decode b_M_slot 38 = .ok (.iload_n 2, 1) := by decide +kernel
theorem d_M_slot_39 : decode b_M_slot 39 = .ok (.iadd, 1) := by decide +kernel
theorem d_M_slot_40 : decode b_M_slot 40 = .ok (.iaload, 1) := by decide +kernel
theorem d_M_slot_41 : decode b_M_slot 41 = .ok (.goto 4, 3) := by decide +kernel
theorem d_M_slot_44 : decode b_M_slot 44 = .ok (.iconst (-1), 1) := by decide +kernel
theorem d_M_slot_45 : decode b_M_slot 45 = .ok (.ireturn, 1) := by decide +kernel
theorem d_M_table_0 : decode b_M_table 0 = .ok (.iconst 0, 1) := by decide +kernel
theorem d_M_table_1 : decode b_M_table 1 = .ok (.istore_n 1, 1) := by decide +kernel
theorem d_M_table_2 : decode b_M_table 2 = .ok (.iconst 0, 1) := by decide +kernel
theorem d_M_table_3 : decode b_M_table 3 = .ok (.istore_n 2, 1) := by decide +kernel
theorem d_M_table_4 : decode b_M_table 4 = .ok (.iload_n 2, 1) := by decide +kernel
theorem d_M_table_5 : decode b_M_table 5 = .ok (.bipush 48, 2) := by decide +kernel
theorem d_M_table_7 : decode b_M_table 7 = .ok (.if_icmp .ge 35, 3) := by decide +kernel
theorem d_M_table_10 : decode b_M_table 10 = .ok (.aload_n 0, 1) := by decide +kernel
theorem d_M_table_11 : decode b_M_table 11 = .ok (.getfield 13, 3) := by decide +kernel
theorem d_M_table_14 : decode b_M_table 14 = .ok (.iload_n 2, 1) := by decide +kernel
theorem d_M_table_15 : decode b_M_table 15 = .ok (.iaload, 1) := by decide +kernel
theorem d_M_table_16 : decode b_M_table 16 = .ok (.ifCond .le 18, 3) := by decide +kernel
theorem d_M_table_19 : decode b_M_table 19 = .ok (.aload_n 0, 1) := by decide +kernel
theorem d_M_table_20 : decode b_M_table 20 = .ok (.getfield 16, 3) := by decide +kernel
theorem d_M_table_23 : decode b_M_table 23 = .ok (.iload_n 2, 1) := by decide +kernel
theorem d_M_table_24 : decode b_M_table 24 = .ok (.iaload, 1) := by decide +kernel
theorem d_M_table_25 : decode b_M_table 25 = .ok (.ifCond .ne 9, 3) := by decide +kernel
theorem d_M_table_28 : decode b_M_table 28 = .ok (.iload_n 1, 1) := by decide +kernel
theorem d_M_table_29 : decode b_M_table 29 = .ok (.iconst 1, 1) := by decide +kernel
theorem d_M_table_30 : decode b_M_table 30 = .ok (.iadd, 1) := by decide +kernel
theorem d_M_table_31 : decode b_M_table 31 = .ok (.goto 4, 3) := by decide +kernel
theorem d_M_table_34 : decode b_M_table 34 = .ok (.iload_n 1, 1) := by decide +kernel
theorem d_M_table_35 : decode b_M_table 35 = .ok (.istore_n 1, 1) := by decide +kernel
theorem d_M_table_36 : decode b_M_table 36 = .ok (.iinc 2 1, 3) := by decide +kernel
theorem d_M_table_39 : decode b_M_table 39 = .ok (.goto (-35), 3) := by decide +kernel
theorem d_M_table_42 : decode b_M_table 42 = .ok (.iload_n 1, 1) := by decide +kernel
theorem d_M_table_43 : decode b_M_table 43 = .ok (.ireturn, 1) := by decide +kernel
theorem d_M_state_0 : decode b_M_state 0 = .ok (.aload_n 0, 1) := by decide +kernel
theorem d_M_state_1 : decode b_M_state 1 = .ok (.iload_n 1, 1) := by decide +kernel
theorem d_M_state_2 : decode b_M_state 2 = .ok (.invokevirtual 83, 3) := by decide +kernel
theorem d_M_state_5 : decode b_M_state 5 = .ok (.istore_n 2, 1) := by decide +kernel
theorem d_M_state_6 : decode b_M_state 6 = .ok (.iload_n 2, 1) := by decide +kernel
theorem d_M_state_7 : decode b_M_state 7 = .ok (.ifCond .ge 7, 3) := by decide +kernel
theorem d_M_state_10 : decode b_M_state 10 = .ok (.iconst 0, 1) := by decide +kernel
theorem d_M_state_11 : decode b_M_state 11 = .ok (.goto 32, 3) := by decide +kernel
theorem d_M_state_14 : decode b_M_state 14 = .ok (.aload_n 0, 1) := by decide +kernel
theorem d_M_state_15 : decode b_M_state 15 = .ok (.getfield 16, 3) := by decide +kernel
theorem d_M_state_18 : decode b_M_state 18 = .ok (.iload_n 2, 1) := by decide +kernel
theorem d_M_state_19 : decode b_M_state 19 = .ok (.iaload, 1) := by decide +kernel
theorem d_M_state_20 : decode b_M_state 20 = .ok (.ifCond .ne 7, 3) := by decide +kernel
theorem d_M_state_23 : decode b_M_state 23 = .ok (.iconst 1, 1) := by decide +kernel
theorem d_M_state_24 : decode b_M_state 24 = .ok (.goto 4, 3) := by decide +kernel
theorem d_M_state_27 : decode b_M_state 27 = .ok (.iconst 0, 1) := by decide +kernel
theorem d_M_state_28 : decode b_M_state 28 = .ok (.aload_n 0, 1) := by decide +kernel
theorem d_M_state_29 : decode b_M_state 29 = .ok (.getfield 19, 3) := by decide +kernel
theorem d_M_state_32 : decode b_M_state 32 = .ok (.iload_n 2, 1) := by decide +kernel
theorem d_M_state_33 : decode b_M_state 33 = .ok (.baload, 1) := by decide +kernel
theorem d_M_state_34 : decode b_M_state 34 = .ok (.ifCond .eq 7, 3) := by decide +kernel
theorem d_M_state_37 : decode b_M_state 37 = .ok (.iconst 2, 1) := by decide +kernel
theorem d_M_state_38 : decode b_M_state 38 = .ok (.goto 4, 3) := by decide +kernel
theorem d_M_state_41 : decode b_M_state 41 = .ok (.iconst 0, 1) := by decide +kernel
theorem d_M_state_42 : decode b_M_state 42 = .ok (.iadd, 1) := by decide +kernel
theorem d_M_state_43 : decode b_M_state 43 = .ok (.ireturn, 1) := by decide +kernel
theorem d_M_log_0 : decode b_M_log 0 = .ok (.aload_n 0, 1) := by decide +kernel
theorem d_M_log_1 : decode b_M_log 1 = .ok (.getfield 50, 3) := by decide +kernel
theorem d_M_log_4 : decode b_M_log 4 = .ok (.ireturn, 1) := by decide +kernel
theorem d_M_slotsOf_0 : decode b_M_slotsOf 0 = .ok (.aload_n 0, 1) := by decide +kernel
theorem d_M_slotsOf_1 : decode b_M_slotsOf 1 = .ok (.iload_n 1, 1) := by decide +kernel
theorem d_M_slotsOf_2 : decode b_M_slotsOf 2 = .ok (.invokevirtual 83, 3) := by decide +kernel
theorem d_M_slotsOf_5 : decode b_M_slotsOf 5 = .ok (.istore_n 2, 1) := by decide +kernel
theorem d_M_slotsOf_6 : decode b_M_slotsOf 6 = .ok (.iload_n 2, 1) := by decide +kernel
theorem d_M_slotsOf_7 : decode b_M_slotsOf 7 = .ok (.ifCond .ge 7, 3) := by decide +kernel
theorem d_M_slotsOf_10 : decode b_M_slotsOf 10 = .ok (.iconst 0, 1) := by decide +kernel
theorem d_M_slotsOf_11 : decode b_M_slotsOf 11 = .ok (.goto 9, 3) := by decide +kernel
theorem d_M_slotsOf_14 : decode b_M_slotsOf 14 = .ok (.aload_n 0, 1) := by decide +kernel
theorem d_M_slotsOf_15 : decode b_M_slotsOf 15 = .ok (.getfield 13, 3) := by decide +kernel
theorem d_M_slotsOf_18 : decode b_M_slotsOf 18 = .ok (.iload_n 2, 1) := by decide +kernel
theorem d_M_slotsOf_19 : decode b_M_slotsOf 19 = .ok (.iaload, 1) := by decide +kernel
theorem d_M_slotsOf_20 : decode b_M_slotsOf 20 = .ok (.ireturn, 1) := by decide +kernel
theorem d_M_entry_0 : decode b_M_entry 0 = .ok (.iload_n 1, 1) := by decide +kernel
theorem d_M_entry_1 : decode b_M_entry 1 = .ok (.iconst 0, 1) := by decide +kernel
theorem d_M_entry_2 : decode b_M_entry 2 = .ok (.aload_n 0, 1) := by decide +kernel
theorem d_M_entry_3 : decode b_M_entry 3 = .ok (.getfield 50, 3) := by decide +kernel
theorem d_M_entry_6 : decode b_M_entry 6 = .ok (.iconst 1, 1) := by decide +kernel
theorem d_M_entry_7 : decode b_M_entry 7 = .ok (.isub, 1) := by decide +kernel
theorem d_M_entry_8 : decode b_M_entry 8 = .ok (.invokestatic 66, 3) := by decide +kernel
theorem d_M_entry_11 : decode b_M_entry 11 = .ok (.ifCond .eq 28, 3) := by decide +kernel
theorem d_M_entry_14 : decode b_M_entry 14 = .ok (.iload_n 2, 1) := by decide +kernel
theorem d_M_entry_15 : decode b_M_entry 15 = .ok (.iconst (-1), 1) := by decide +kernel
theorem d_M_entry_16 : decode b_M_entry 16 = .ok (.if_icmp .eq 25, 3) := by decide +kernel
theorem d_M_entry_19 : decode b_M_entry 19 = .ok (.iload_n 2, 1) := by decide +kernel
theorem d_M_entry_20 : decode b_M_entry 20 = .ok (.iconst 0, 1) := by decide +kernel
theorem d_M_entry_21 : decode b_M_entry 21 = .ok (.aload_n 0, 1) := by decide +kernel
theorem d_M_entry_22 : decode b_M_entry 22 = .ok (.aload_n 0, 1) := by decide +kernel
theorem d_M_entry_23 : decode b_M_entry 23 = .ok (.getfield 29, 3) := by decide +kernel
theorem d_M_entry_26 : decode b_M_entry 26 = .ok (.iload_n 1, 1) := by decide +kernel
theorem d_M_entry_27 : decode b_M_entry 27 = .ok (.iaload, 1) := by decide +kernel
theorem d_M_entry_28 : decode b_M_entry 28 = .ok (.invokevirtual 96, 3) := by decide +kernel
theorem d_M_entry_31 : decode b_M_entry 31 = .ok (.iconst 1, 1) := by decide +kernel
theorem d_M_entry_32 : decode b_M_entry 32 = .ok (.isub, 1) := by decide +kernel
theorem d_M_entry_33 : decode b_M_entry 33 = .ok (.invokestatic 66, 3) := by decide +kernel
theorem d_M_entry_36 : decode b_M_entry 36 = .ok (.ifCond .ne 5, 3) := by decide +kernel
theorem d_M_entry_39 : decode b_M_entry 39 = .ok (.iconst (-1), 1) := by decide +kernel
theorem d_M_entry_40 : decode b_M_entry 40 = .ok (.ireturn, 1) := by decide +kernel
theorem d_M_entry_41 : decode b_M_entry 41 = .ok (.iload_n 2, 1) := by decide +kernel
theorem d_M_entry_42 : decode b_M_entry 42 = .ok (.ifCond .ge 12, 3) := by decide +kernel
theorem d_M_entry_45 : decode b_M_entry 45 = .ok (.aload_n 0, 1) := by decide +kernel
theorem d_M_entry_46 : decode b_M_entry 46 = .ok (.getfield 29, 3) := by decide +kernel
theorem d_M_entry_49 : decode b_M_entry 49 = .ok (.iload_n 1, 1) := by decide +kernel
theorem d_M_entry_50 : decode b_M_entry 50 = .ok (.iaload, 1) := by decide +kernel
theorem d_M_entry_51 : decode b_M_entry 51 = .ok (.goto 13, 3) := by decide +kernel
theorem d_M_entry_54 : decode b_M_entry 54 = .ok (.aload_n 0, 1) := by decide +kernel
theorem d_M_entry_55 : decode b_M_entry 55 = .ok (.getfield 32, 3) := by decide +kernel
theorem d_M_entry_58 : decode b_M_entry 58 = .ok (.iconst 4, 1) := by decide +kernel
theorem d_M_entry_59 : decode b_M_entry 59 = .ok (.iload_n 1, 1) := by decide +kernel
theorem d_M_entry_60 : decode b_M_entry 60 = .ok (.imul, 1) := by decide +kernel
theorem d_M_entry_61 : decode b_M_entry 61 = .ok (.iload_n 2, 1) := by decide +kernel
theorem d_M_entry_62 : decode b_M_entry 62 = .ok (.iadd, 1) := by decide +kernel
theorem d_M_entry_63 : decode b_M_entry 63 = .ok (.iaload, 1) := by decide +kernel
theorem d_M_entry_64 : decode b_M_entry 64 = .ok (.ireturn, 1) := by decide +kernel
theorem d_M_free_0 : decode b_M_free 0 = .ok (.bipush 48, 2) := by decide +kernel
theorem d_M_free_2 : decode b_M_free 2 = .ok (.istore_n 1, 1) := by decide +kernel
theorem d_M_free_3 : decode b_M_free 3 = .ok (.iconst 0, 1) := by decide +kernel
theorem d_M_free_4 : decode b_M_free 4 = .ok (.istore_n 2, 1) := by decide +kernel
theorem d_M_free_5 : decode b_M_free 5 = .ok (.iload_n 2, 1) := by decide +kernel
theorem d_M_free_6 : decode b_M_free 6 = .ok (.bipush 48, 2) := by decide +kernel
theorem d_M_free_8 : decode b_M_free 8 = .ok (.if_icmp .ge 33, 3) := by decide +kernel
theorem d_M_free_11 : decode b_M_free 11 = .ok (.aload_n 0, 1) := by decide +kernel
theorem d_M_free_12 : decode b_M_free 12 = .ok (.getfield 13, 3) := by decide +kernel
theorem d_M_free_15 : decode b_M_free 15 = .ok (.iload_n 2, 1) := by decide +kernel
theorem d_M_free_16 : decode b_M_free 16 = .ok (.iaload, 1) := by decide +kernel
theorem d_M_free_17 : decode b_M_free 17 = .ok (.ifCond .le 16, 3) := by decide +kernel
theorem d_M_free_20 : decode b_M_free 20 = .ok (.iload_n 1, 1) := by decide +kernel
theorem d_M_free_21 : decode b_M_free 21 = .ok (.aload_n 0, 1) := by decide +kernel
theorem d_M_free_22 : decode b_M_free 22 = .ok (.getfield 13, 3) := by decide +kernel
theorem d_M_free_25 : decode b_M_free 25 = .ok (.iload_n 2, 1) := by decide +kernel
theorem d_M_free_26 : decode b_M_free 26 = .ok (.iaload, 1) := by decide +kernel
theorem d_M_free_27 : decode b_M_free 27 = .ok (.isub, 1) := by decide +kernel
theorem d_M_free_28 : decode b_M_free 28 = .ok (.iconst 1, 1) := by decide +kernel
theorem d_M_free_29 : decode b_M_free 29 = .ok (.isub, 1) := by decide +kernel
theorem d_M_free_30 : decode b_M_free 30 = .ok (.goto 4, 3) := by decide +kernel
theorem d_M_free_33 : decode b_M_free 33 = .ok (.iload_n 1, 1) := by decide +kernel
theorem d_M_free_34 : decode b_M_free 34 = .ok (.istore_n 1, 1) := by decide +kernel
theorem d_M_free_35 : decode b_M_free 35 = .ok (.iinc 2 1, 3) := by decide +kernel
theorem d_M_free_38 : decode b_M_free 38 = .ok (.goto (-33), 3) := by decide +kernel
theorem d_M_free_41 : decode b_M_free 41 = .ok (.iload_n 1, 1) := by decide +kernel
theorem d_M_free_42 : decode b_M_free 42 = .ok (.ireturn, 1) := by decide +kernel
theorem d_M_reckonings_0 : decode b_M_reckonings 0 = .ok (.aload_n 0, 1) := by decide +kernel
theorem d_M_reckonings_1 : decode b_M_reckonings 1 = .ok (.getfield 47, 3) := by decide +kernel
theorem d_M_reckonings_4 : decode b_M_reckonings 4 = .ok (.ireturn, 1) := by decide +kernel
