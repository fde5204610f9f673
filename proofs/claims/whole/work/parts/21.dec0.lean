theorem d_Heap_init_0 : decode b_Heap_init 0 = .ok (.aload_n 0, 1) := by decide +kernel
theorem d_Heap_init_1 : decode b_Heap_init 1 = .ok (.invokespecial 3, 3) := by decide +kernel
theorem d_Heap_init_4 : decode b_Heap_init 4 = .ok (.aload_n 0, 1) := by decide +kernel
theorem d_Heap_init_5 : decode b_Heap_init 5 = .ok (.bipush 48, 2) := by decide +kernel
theorem d_Heap_init_7 : decode b_Heap_init 7 = .ok (.newarray .int, 2) := by decide +kernel
theorem d_Heap_init_9 : decode b_Heap_init 9 = .ok (.putfield 9, 3) := by decide +kernel
theorem d_Heap_init_12 : decode b_Heap_init 12 = .ok (.aload_n 0, 1) := by decide +kernel
theorem d_Heap_init_13 : decode b_Heap_init 13 = .ok (.bipush 48, 2) := by decide +kernel
theorem d_Heap_init_15 : decode b_Heap_init 15 = .ok (.newarray .int, 2) := by decide +kernel
theorem d_Heap_init_17 : decode b_Heap_init 17 = .ok (.putfield 15, 3) := by decide +kernel
theorem d_Heap_init_20 : decode b_Heap_init 20 = .ok (.aload_n 0, 1) := by decide +kernel
theorem d_Heap_init_21 : decode b_Heap_init 21 = .ok (.iconst 0, 1) := by decide +kernel
theorem d_Heap_init_22 : decode b_Heap_init 22 = .ok (.putfield 18, 3) := by decide +kernel
theorem d_Heap_init_25 : decode b_Heap_init 25 = .ok (.return_, 1) := by decide +kernel
theorem d_Heap_lowestRoom_0 : decode b_Heap_lowestRoom 0 = .ok (.iconst 0, 1) := by decide +kernel
theorem d_Heap_lowestRoom_1 : decode b_Heap_lowestRoom 1 = .ok (.istore_n 2, 1) := by decide +kernel
theorem d_Heap_lowestRoom_2 : decode b_Heap_lowestRoom 2 = .ok (.iconst 0, 1) := by decide +kernel
theorem d_Heap_lowestRoom_3 : decode b_Heap_lowestRoom 3 = .ok (.istore_n 3, 1) := by decide +kernel
theorem d_Heap_lowestRoom_4 : decode b_Heap_lowestRoom 4 = .ok (.iload_n 3, 1) := by decide +kernel
theorem d_Heap_lowestRoom_5 : decode b_Heap_lowestRoom 5 = .ok (.bipush 48, 2) := by decide +kernel
theorem d_Heap_lowestRoom_7 : decode b_Heap_lowestRoom 7 = .ok (.if_icmp .ge 37, 3) := by decide +kernel
theorem d_Heap_lowestRoom_10 : decode b_Heap_lowestRoom 10 = .ok (.aload_n 0, 1) := by decide +kernel
theorem d_Heap_lowestRoom_11 : decode b_Heap_lowestRoom 11 = .ok (.getfield 9, 3) := by decide +kernel
theorem d_Heap_lowestRoom_14 : decode b_Heap_lowestRoom 14 = .ok (.iload_n 3, 1) := by decide +kernel
theorem d_Heap_lowestRoom_15 : decode b_Heap_lowestRoom 15 = .ok (.iaload, 1) := by decide +kernel
theorem d_Heap_lowestRoom_16 : decode b_Heap_lowestRoom 16 = .ok (.ifCond .ne 9, 3) := by decide +kernel
theorem d_Heap_lowestRoom_19 : decode b_Heap_lowestRoom 19 = .ok (.iload_n 2, 1) := by decide +kernel
theorem d_Heap_lowestRoom_20 : decode b_Heap_lowestRoom 20 = .ok (.iconst 1, 1) := by decide +kernel
theorem d_Heap_lowestRoom_21 : decode b_Heap_lowestRoom 21 = .ok (.iadd, 1) := by decide +kernel
theorem d_Heap_lowestRoom_22 : decode b_Heap_lowestRoom 22 = .ok (.goto 4, 3) := by decide +kernel
theorem d_Heap_lowestRoom_25 : decode b_Heap_lowestRoom 25 = .ok (.iconst 0, 1) := by decide +kernel
theorem d_Heap_lowestRoom_26 : decode b_Heap_lowestRoom 26 = .ok (.istore_n 2, 1) := by decide +kernel
theorem d_Heap_lowestRoom_27 : decode b_Heap_lowestRoom 27 = .ok (.iload_n 2, 1) := by decide +kernel
theorem d_Heap_lowestRoom_28 : decode b_Heap_lowestRoom 28 = .ok (.iload_n 1, 1) := by decide +kernel
theorem d_Heap_lowestRoom_29 : decode b_Heap_lowestRoom 29 = .ok (.if_icmp .ne 9, 3) := by decide +kernel
theorem d_Heap_lowestRoom_32 : decode b_Heap_lowestRoom 32 = .ok (.iload_n 3, 1) := by decide +kernel
theorem d_Heap_lowestRoom_33 : decode b_Heap_lowestRoom 33 = .ok (.iload_n 1, 1) := by decide +kernel
theorem d_Heap_lowestRoom_34 : decode b_Heap_lowestRoom 34 = .ok (.isub, 1) := by decide +kernel
theorem d_Heap_lowestRoom_35 : decode b_Heap_lowestRoom 35 = .ok (.iconst 1, 1) := by decide +kernel
theorem d_Heap_lowestRoom_36 : decode b_Heap_lowestRoom 36 = .ok (.iadd, 1) := by decide +kernel
theorem d_Heap_lowestRoom_37 : decode b_Heap_lowestRoom 37 = .ok (.ireturn, 1) := by decide +kernel
theorem d_Heap_lowestRoom_38 : decode b_Heap_lowestRoom 38 = .ok (.iinc 3 1, 3) := by decide +kernel
theorem d_Heap_lowestRoom_41 : decode b_Heap_lowestRoom 41 = .ok (.goto (-37), 3) := by decide +kernel
theorem d_Heap_lowestRoom_44 : decode b_Heap_lowestRoom 44 = .ok (.iconst (-1), 1) := by decide +kernel
theorem d_Heap_lowestRoom_45 : decode b_Heap_lowestRoom 45 = .ok (.ireturn, 1) := by decide +kernel
theorem d_Heap_layNew_0 : decode b_Heap_layNew 0 = .ok (.aload_n 0, 1) := by decide +kernel
theorem d_Heap_layNew_1 : decode b_Heap_layNew 1 = .ok (.dup, 1) := by decide +kernel
theorem d_Heap_layNew_2 : decode b_Heap_layNew 2 = .ok (.getfield 18, 3) := by decide +kernel
theorem d_Heap_layNew_5 : decode b_Heap_layNew 5 = .ok (.iconst 1, 1) := by decide +kernel
theorem d_Heap_layNew_6 : decode b_Heap_layNew 6 = .ok (.iadd, 1) := by decide +kernel
theorem d_Heap_layNew_7 : decode b_Heap_layNew 7 = .ok (.putfield 18, 3) := by decide +kernel
theorem d_Heap_layNew_10 : decode b_Heap_layNew 10 = .ok (.iload_n 1, 1) := by decide +kernel
theorem d_Heap_layNew_11 : decode b_Heap_layNew 11 = .ok (.istore_n 3, 1) := by decide +kernel
theorem d_Heap_layNew_12 : decode b_Heap_layNew 12 = .ok (.iload_n 3, 1) := by decide +kernel
theorem d_Heap_layNew_13 : decode b_Heap_layNew 13 = .ok (.iload_n 1, 1) := by decide +kernel
theorem d_Heap_layNew_14 : decode b_Heap_layNew 14 = .ok (.iload_n 2, 1) := by decide +kernel
theorem d_Heap_layNew_15 : decode b_Heap_layNew 15 = .ok (.iadd, 1) := by decide +kernel
theorem d_Heap_layNew_16 : decode b_Heap_layNew 16 = .ok (.if_icmp .gt 26, 3) := by decide +kernel
theorem d_Heap_layNew_19 : decode b_Heap_layNew 19 = .ok (.aload_n 0, 1) := by decide +kernel
theorem d_Heap_layNew_20 : decode b_Heap_layNew 20 = .ok (.getfield 9, 3) := by decide +kernel
theorem d_Heap_layNew_23 : decode b_Heap_layNew 23 = .ok (.iload_n 3, 1) := by decide +kernel
theorem d_Heap_layNew_24 : decode b_Heap_layNew 24 = .ok (.aload_n 0, 1) := by decide +kernel
theorem d_Heap_layNew_25 : decode b_Heap_layNew 25 = .ok (.getfield 18, 3) := by decide +kernel
theorem d_Heap_layNew_28 : decode b_Heap_layNew 28 = .ok (.iastore, 1) := by decide +kernel
theorem d_Heap_layNew_29 : decode b_Heap_layNew 29 = .ok (.aload_n 0, 1) := by decide +kernel
theorem d_Heap_layNew_30 : decode b_Heap_layNew 30 = .ok (.getfield 15, 3) := by decide +kernel
theorem d_Heap_layNew_33 : decode b_Heap_layNew 33 = .ok (.iload_n 3, 1) := by decide +kernel
theorem d_Heap_layNew_34 : decode b_Heap_layNew 34 = .ok (.iconst 0, 1) := by decide +kernel
theorem d_Heap_layNew_35 : decode b_Heap_layNew 35 = .ok (.iastore, 1) := by decide +kernel
theorem d_Heap_layNew_36 : decode b_Heap_layNew 36 = .ok (.iinc 3 1, 3) := by decide +kernel
theorem d_Heap_layNew_39 : decode b_Heap_layNew 39 = .ok (.goto (-27), 3) := by decide +kernel
theorem d_Heap_layNew_42 : decode b_Heap_layNew 42 = .ok (.aload_n 0, 1) := by decide +kernel
theorem d_Heap_layNew_43 : decode b_Heap_layNew 43 = .ok (.getfield 18, 3) := by decide +kernel
theorem d_Heap_layNew_46 : decode b_Heap_layNew 46 = .ok (.ireturn, 1) := by decide +kernel
theorem d_Heap_giveBack_0 : decode b_Heap_giveBack 0 = .ok (.aload_n 0, 1) := by decide +kernel
theorem d_Heap_giveBack_1 : decode b_Heap_giveBack 1 = .ok (.iload_n 1, 1) := by decide +kernel
theorem d_Heap_giveBack_2 : decode b_Heap_giveBack 2 = .ok (.invokevirtual 22, 3) := by decide +kernel
theorem d_Heap_giveBack_5 : decode b_Heap_giveBack 5 = .ok (.istore_n 2, 1) := by decide +kernel
theorem d_Heap_giveBack_6 : decode b_Heap_giveBack 6 = .ok (.iconst 0, 1) := by decide +kernel
theorem d_Heap_giveBack_7 : decode b_Heap_giveBack 7 = .ok (.istore_n 3, 1) := by decide +kernel
theorem d_Heap_giveBack_8 : decode b_Heap_giveBack 8 = .ok (.iload_n 3, 1) := by decide +kernel
theorem d_Heap_giveBack_9 : decode b_Heap_giveBack 9 = .ok (.iload_n 2, 1) := by decide +kernel
theorem d_Heap_giveBack_10 : decode b_Heap_giveBack 10 = .ok (.if_icmp .ge 20, 3) := by decide +kernel
theorem d_Heap_giveBack_13 : decode b_Heap_giveBack 13 = .ok (.aload_n 0, 1) := by decide +kernel
theorem d_Heap_giveBack_14 : decode b_Heap_giveBack 14 = .ok (.aload_n 0, 1) := by decide +kernel
theorem d_Heap_giveBack_15 : decode b_Heap_giveBack 15 = .ok (.iload_n 1, 1) := by decide +kernel
theorem d_Heap_giveBack_16 : decode b_Heap_giveBack 16 = .ok (.iload_n 3, 1) := by decide +kernel
theorem d_Heap_giveBack_17 : decode b_Heap_giveBack 17 = .ok (.invokevirtual 26, 3) := by decide +kernel
theorem d_Heap_giveBack_20 : decode b_Heap_giveBack 20 = .ok (.iconst (-1), 1) := by decide +kernel
theorem d_Heap_giveBack_21 : decode b_Heap_giveBack 21 = .ok (.invokevirtual 30, 3) := by decide +kernel
theorem d_Heap_giveBack_24 : decode b_Heap_giveBack 24 = .ok (.iinc 3 1, 3) := by decide +kernel
theorem d_Heap_giveBack_27 : decode b_Heap_giveBack 27 = .ok (.goto (-19), 3) := by decide +kernel
theorem d_Heap_giveBack_30 : decode b_Heap_giveBack 30 = .ok (.iload_n 1, 1) := by decide +kernel
theorem d_Heap_giveBack_31 : decode b_Heap_giveBack 31 = .ok (.istore_n 3, 1) := by decide +kernel
theorem d_Heap_giveBack_32 : decode b_Heap_giveBack 32 = .ok (.iload_n 3, 1) := by decide +kernel
theorem d_Heap_giveBack_33 : decode b_Heap_giveBack 33 = .ok (.iload_n 1, 1) := by decide +kernel
theorem d_Heap_giveBack_34 : decode b_Heap_giveBack 34 = .ok (.iload_n 2, 1) := by decide +kernel
theorem d_Heap_giveBack_35 : decode b_Heap_giveBack 35 = .ok (.iadd, 1) := by decide +kernel
theorem d_Heap_giveBack_36 : decode b_Heap_giveBack 36 = .ok (.if_icmp .gt 16, 3) := by decide +kernel
theorem d_Heap_giveBack_39 : decode b_Heap_giveBack 39 = .ok (.aload_n 0, 1) := by decide +kernel
theorem d_Heap_giveBack_40 : decode b_Heap_giveBack 40 = .ok (.getfield 9, 3) := by decide +kernel
theorem d_Heap_giveBack_43 : decode b_Heap_giveBack 43 = .ok (.iload_n 3, 1) := by decide +kernel
theorem d_Heap_giveBack_44 : decode b_Heap_giveBack 44 = .ok (.iconst 0, 1) := by decide +kernel
theorem d_Heap_giveBack_45 : decode b_Heap_giveBack 45 = .ok (.iastore, 1) := by decide +kernel
theorem d_Heap_giveBack_46 : decode b_Heap_giveBack 46 = .ok (.iinc 3 1, 3) := by decide +kernel
theorem d_Heap_giveBack_49 : decode b_Heap_giveBack 49 = .ok (.goto (-17), 3) := by decide +kernel
theorem d_Heap_giveBack_52 : decode b_Heap_giveBack 52 = .ok (.return_, 1) := by decide +kernel
theorem d_Heap_addToCount_0 : decode b_Heap_addToCount 0 = .ok (.aload_n 0, 1) := by decide +kernel
theorem d_Heap_addToCount_1 : decode b_Heap_addToCount 1 = .ok (.iload_n 1, 1) := by decide +kernel
theorem d_Heap_addToCount_2 : decode b_Heap_addToCount 2 = .ok (.invokevirtual 34, 3) := by decide +kernel
theorem d_Heap_addToCount_5 : decode b_Heap_addToCount 5 = .ok (.istore_n 3, 1) := by decide +kernel
theorem d_Heap_addToCount_6 : decode b_Heap_addToCount 6 = .ok (.iload_n 3, 1) := by decide +kernel
theorem d_Heap_addToCount_7 : decode b_Heap_addToCount 7 = .ok (.iconst (-1), 1) := by decide +kernel
theorem d_Heap_addToCount_8 : decode b_Heap_addToCount 8 = .ok (.if_icmp .eq 13, 3) := by decide +kernel
theorem d_Heap_addToCount_11 : decode b_Heap_addToCount 11 = .ok (.aload_n 0, 1) := by decide +kernel
theorem d_Heap_addToCount_12 : decode b_Heap_addToCount 12 = .ok (.getfield 15, 3) := by decide +kernel
theorem d_Heap_addToCount_15 : decode b_Heap_addToCount 15 = .ok (.iload_n 3, 1) := by decide +kernel
theorem d_Heap_addToCount_16 : decode b_Heap_addToCount 16 = .ok (.dup2, 1) := by decide +kernel
theorem d_Heap_addToCount_17 : decode b_Heap_addToCount 17 = .ok (.iaload, 1) := by decide +kernel
theorem d_Heap_addToCount_18 : decode b_Heap_addToCount 18 = .ok (.iload_n 2, 1) := by decide +kernel
theorem d_Heap_addToCount_19 : decode b_Heap_addToCount 19 = .ok (.iadd, 1) := by decide +kernel
theorem d_Heap_addToCount_20 : decode b_Heap_addToCount 20 = .ok (.iastore, 1) := by decide +kernel
theorem d_Heap_addToCount_21 : decode b_Heap_addToCount 21 = .ok (.return_, 1) := by decide +kernel
theorem d_Heap_firstCellOf_0 : decode b_Heap_firstCellOf 0 = .ok (.iload_n 1, 1) := by decide +kernel
theorem d_Heap_firstCellOf_1 : decode b_Heap_firstCellOf 1 = .ok (.ifCond .ne 5, 3) := by decide +kernel
theorem d_Heap_firstCellOf_4 : decode b_Heap_firstCellOf 4 = .ok (.iconst (-1), 1) := by decide +kernel
theorem d_Heap_firstCellOf_5 : decode b_Heap_firstCellOf 5 = .ok (.ireturn, 1) := by decide +kernel
theorem d_Heap_firstCellOf_6 : decode b_Heap_firstCellOf 6 = .ok (.iconst 0, 1) := by decide +kernel
theorem d_Heap_firstCellOf_7 : decode b_Heap_firstCellOf 7 = .ok (.istore_n 2, 1) := by decide +kernel
theorem d_Heap_firstCellOf_8 : decode b_Heap_firstCellOf 8 = .ok (.iload_n 2, 1) := by decide +kernel
theorem d_Heap_firstCellOf_9 : decode b_Heap_firstCellOf 9 = .ok (.bipush 48, 2) := by decide +kernel
theorem d_Heap_firstCellOf_11 : decode b_Heap_firstCellOf 11 = .ok (.if_icmp .ge 21, 3) := by decide +kernel
theorem d_Heap_firstCellOf_14 : decode b_Heap_firstCellOf 14 = .ok (.aload_n 0, 1) := by decide +kernel
theorem d_Heap_firstCellOf_15 : decode b_Heap_firstCellOf 15 = .ok (.getfield 9, 3) := by decide +kernel
theorem d_Heap_firstCellOf_18 : decode b_Heap_firstCellOf 18 = .ok (.iload_n 2, 1) := by decide +kernel
theorem d_Heap_firstCellOf_19 : decode b_Heap_firstCellOf 19 = .ok (.iaload, 1) := by decide +kernel
theorem d_Heap_firstCellOf_20 : decode b_Heap_firstCellOf 20 = .ok (.iload_n 1, 1) := by decide +kernel
theorem d_Heap_firstCellOf_21 : decode b_Heap_firstCellOf 21 = .ok (.if_icmp .ne 5, 3) := by decide +kernel
theorem d_Heap_firstCellOf_24 : decode b_Heap_firstCellOf 24 = .ok (.iload_n 2, 1) := by decide +kernel
theorem d_Heap_firstCellOf_25 : decode b_Heap_firstCellOf 25 = .ok (.ireturn, 1) := by decide +kernel
theorem d_Heap_firstCellOf_26 : decode b_Heap_firstCellOf 26 = .ok (.iinc 2 1, 3) := by decide +kernel
theorem d_Heap_firstCellOf_29 : decode b_Heap_firstCellOf 29 = .ok (.goto (-21), 3) := by decide +kernel
theorem d_Heap_firstCellOf_32 : decode b_Heap_firstCellOf 32 = .ok (.iconst (-1), 1) := by decide +kernel
theorem d_Heap_firstCellOf_33 : decode b_Heap_firstCellOf 33 = .ok (.ireturn, 1) := by decide +kernel
theorem d_Heap_objectIn_0 : decode b_Heap_objectIn 0 = .ok (.aload_n 0, 1) := by decide +kernel
theorem d_Heap_objectIn_1 : decode b_Heap_objectIn 1 = .ok (.getfield 9, 3) := by decide +kernel
theorem d_Heap_objectIn_4 : decode b_Heap_objectIn 4 = .ok (.iload_n 1, 1) := by decide +kernel
theorem d_Heap_objectIn_5 : decode b_Heap_objectIn 5 = .ok (.iaload, 1) := by decide +kernel
theorem d_Heap_objectIn_6 : decode b_Heap_objectIn 6 = .ok (.ireturn, 1) := by decide +kernel
theorem d_Heap_countAt_0 : decode b_Heap_countAt 0 = .ok (.aload_n 0, 1) := by decide +kernel
theorem d_Heap_countAt_1 : decode b_Heap_countAt 1 = .ok (.getfield 15, 3) := by decide +kernel
theorem d_Heap_countAt_4 : decode b_Heap_countAt 4 = .ok (.iload_n 1, 1) := by decide +kernel
theorem d_Heap_countAt_5 : decode b_Heap_countAt 5 = .ok (.iaload, 1) := by decide +kernel
theorem d_Heap_countAt_6 : decode b_Heap_countAt 6 = .ok (.ireturn, 1) := by decide +kernel
theorem d_Heap_slotsAt_0 : decode b_Heap_slotsAt 0 = .ok (.iload_n 1, 1) := by decide +kernel
theorem d_Heap_slotsAt_1 : decode b_Heap_slotsAt 1 = .ok (.iconst (-1), 1) := by decide +kernel
theorem d_Heap_slotsAt_2 : decode b_Heap_slotsAt 2 = .ok (.if_icmp .ne 5, 3) := by decide +kernel
theorem d_Heap_slotsAt_5 : decode b_Heap_slotsAt 5 = .ok (.iconst 0, 1) := by decide +kernel
theorem d_Heap_slotsAt_6 : decode b_Heap_slotsAt 6 = .ok (.ireturn, 1) := by decide +kernel
theorem d_Heap_slotsAt_7 : decode b_Heap_slotsAt 7 = .ok (.iconst 0, 1) := by decide +kernel
theorem d_Heap_slotsAt_8 : decode b_Heap_slotsAt 8 = .ok (.istore_n 2, 1) := by decide +kernel
theorem d_Heap_slotsAt_9 : decode b_Heap_slotsAt 9 = .ok (.iload_n 1, 1) := by decide +kernel
theorem d_Heap_slotsAt_10 : decode b_Heap_slotsAt 10 = .ok (.iconst 1, 1) := by decide +kernel
theorem d_Heap_slotsAt_11 : decode b_Heap_slotsAt 11 = .ok (.iadd, 1) := by decide +kernel
theorem d_Heap_slotsAt_12 : decode b_Heap_slotsAt 12 = .ok (.istore_n 3, 1) := by decide +kernel
theorem d_Heap_slotsAt_13 : decode b_Heap_slotsAt 13 = .ok (.iload_n 3, 1) := by decide +kernel
theorem d_Heap_slotsAt_14 : decode b_Heap_slotsAt 14 = .ok (.bipush 48, 2) := by decide +kernel
theorem d_Heap_slotsAt_16 : decode b_Heap_slotsAt 16 = .ok (.if_icmp .ge 27, 3) := by decide +kernel
theorem d_Heap_slotsAt_19 : decode b_Heap_slotsAt 19 = .ok (.aload_n 0, 1) := by decide +kernel
theorem d_Heap_slotsAt_20 : decode b_Heap_slotsAt 20 = .ok (.getfield 9, 3) := by decide +kernel
theorem d_Heap_slotsAt_23 : decode b_Heap_slotsAt 23 = .ok (.iload_n 3, 1) := by decide +kernel
theorem d_Heap_slotsAt_24 : decode b_Heap_slotsAt 24 = .ok (.iaload, 1) := by decide +kernel
theorem d_Heap_slotsAt_25 : decode b_Heap_slotsAt 25 = .ok (.aload_n 0, 1) := by decide +kernel
theorem d_Heap_slotsAt_26 : decode b_Heap_slotsAt 26 = .ok (.getfield 9, 3) := by decide +kernel
theorem d_Heap_slotsAt_29 : decode b_Heap_slotsAt 29 = .ok (.iload_n 1, 1) := by decide +kernel
theorem d_Heap_slotsAt_30 : decode b_Heap_slotsAt 30 = .ok (.iaload, 1) := by decide +kernel
theorem d_Heap_slotsAt_31 : decode b_Heap_slotsAt 31 = .ok (.if_icmp .ne 12, 3) := by decide +kernel
theorem d_Heap_slotsAt_34 : decode b_Heap_slotsAt 34 = .ok (.iinc 2 1, 3) := by decide +kernel
theorem d_Heap_slotsAt_37 : decode b_Heap_slotsAt 37 = .ok (.iinc 3 1, 3) := by decide +kernel
theorem d_Heap_slotsAt_40 : decode b_Heap_slotsAt 40 = .ok (.goto (-27), 3) := by decide +kernel
theorem d_Heap_slotsAt_43 : decode b_Heap_slotsAt 43 = .ok (.iload_n 2, 1) := by decide +kernel
theorem d_Heap_slotsAt_44 : decode b_Heap_slotsAt 44 = .ok (.ireturn, 1) := by decide +kernel
theorem d_Heap_hasSlot_0 : decode b_Heap_hasSlot 0 = .ok (.iload_n 2, 1) := by decide +kernel
theorem d_Heap_hasSlot_1 : decode b_Heap_hasSlot 1 = .ok (.ifCond .lt 16, 3) := by decide +kernel
theorem d_Heap_hasSlot_4 : decode b_Heap_hasSlot 4 = .ok (.iload_n 2, 1) := by decide +kernel
theorem d_Heap_hasSlot_5 : decode b_Heap_hasSlot 5 = .ok (.aload_n 0, 1) := by decide +kernel
theorem d_Heap_hasSlot_6 : decode b_Heap_hasSlot 6 = .ok (.iload_n 1, 1) := by decide +kernel
theorem d_Heap_hasSlot_7 : decode b_Heap_hasSlot 7 = .ok (.invokevirtual 22, 3) := by decide +kernel
theorem d_Heap_hasSlot_10 : decode b_Heap_hasSlot 10 = .ok (.if_icmp .ge 7, 3) := by decide +kernel
theorem d_Heap_hasSlot_13 : decode b_Heap_hasSlot 13 = .ok (.iconst 1, 1) := by decide +kernel
theorem d_Heap_hasSlot_14 : decode b_Heap_hasSlot 14 = .ok (.goto 4, 3) := by decide +kernel
theorem d_Heap_hasSlot_17 : decode b_Heap_hasSlot 17 = .ok (.iconst 0, 1) := by decide +kernel
theorem d_Heap_hasSlot_18 : decode b_Heap_hasSlot 18 = .ok (.ireturn, 1) := by decide +kernel
theorem d_Heap_inSlot_0 : decode b_Heap_inSlot 0 = .ok (.aload_n 0, 1) := by decide +kernel
theorem d_Heap_inSlot_1 : decode b_Heap_inSlot 1 = .ok (.getfield 15, 3) := by decide +kernel
theorem d_Heap_inSlot_4 : decode b_Heap_inSlot 4 = .ok (.iload_n 1, 1) := by decide +kernel
theorem d_Heap_inSlot_5 : decode b_Heap_inSlot 5 = .ok (.iconst 1, 1) := by decide +kernel
theorem d_Heap_inSlot_6 : decode b_Heap_inSlot 6 = .ok (.iadd, 1) := by decide +kernel
theorem d_Heap_inSlot_7 : decode b_Heap_inSlot 7 = .ok (.iload_n 2, 1) := by decide +kernel
theorem d_Heap_inSlot_8 : decode b_Heap_inSlot 8 = .ok (.iadd, 1) := by decide +kernel
theorem d_Heap_inSlot_9 : decode b_Heap_inSlot 9 = .ok (.iaload, 1) := by decide +kernel
theorem d_Heap_inSlot_10 : decode b_Heap_inSlot 10 = .ok (.ireturn, 1) := by decide +kernel
theorem d_Heap_setSlot_0 : decode b_Heap_setSlot 0 = .ok (.aload_n 0, 1) := by decide +kernel
theorem d_Heap_setSlot_1 : decode b_Heap_setSlot 1 = .ok (.getfield 15, 3) := by decide +kernel
theorem d_Heap_setSlot_4 : decode b_Heap_setSlot 4 = .ok (.iload_n 1, 1) := by decide +kernel
theorem d_Heap_setSlot_5 : decode b_Heap_setSlot 5 = .ok (.iconst 1, 1) := by decide +kernel
theorem d_Heap_setSlot_6 : decode b_Heap_setSlot 6 = .ok (.iadd, 1) := by decide +kernel
theorem d_Heap_setSlot_7 : decode b_Heap_setSlot 7 = .ok (.iload_n 2, 1) := by decide +kernel
theorem d_Heap_setSlot_8 : decode b_Heap_setSlot 8 = .ok (.iadd, 1) := by decide +kernel
theorem d_Heap_setSlot_9 : decode b_Heap_setSlot 9 = .ok (.iload_n 3, 1) := by decide +kernel
theorem d_Heap_setSlot_10 : decode b_Heap_setSlot 10 = .ok (.iastore, 1) := by decide +kernel
theorem d_Heap_setSlot_11 : decode b_Heap_setSlot 11 = .ok (.return_, 1) := by decide +kernel
theorem d_Heap_isFirst_0 : decode b_Heap_isFirst 0 = .ok (.aload_n 0, 1) := by decide +kernel
theorem d_Heap_isFirst_1 : decode b_Heap_isFirst 1 = .ok (.getfield 9, 3) := by decide +kernel
theorem d_Heap_isFirst_4 : decode b_Heap_isFirst 4 = .ok (.iload_n 1, 1) := by decide +kernel
theorem d_Heap_isFirst_5 : decode b_Heap_isFirst 5 = .ok (.iaload, 1) := by decide +kernel
theorem d_Heap_isFirst_6 : decode b_Heap_isFirst 6 = .ok (.ifCond .eq 28, 3) := by decide +kernel
theorem d_Heap_isFirst_9 : decode b_Heap_isFirst 9 = .ok (.iload_n 1, 1) := by decide +kernel
theorem d_Heap_isFirst_10 : decode b_Heap_isFirst 10 = .ok (.ifCond .eq 20, 3) := by decide +kernel
theorem d_Heap_isFirst_13 : decode b_Heap_isFirst 13 = .ok (.aload_n 0, 1) := by decide +kernel
theorem d_Heap_isFirst_14 : decode b_Heap_isFirst 14 = .ok (.getfield 9, 3) := by decide +kernel
theorem d_Heap_isFirst_17 : decode b_Heap_isFirst 17 = .ok (.iload_n 1, 1) := by decide +kernel
theorem d_Heap_isFirst_18 : decode b_Heap_isFirst 18 = .ok (.iconst 1, 1) := by decide +kernel
theorem d_Heap_isFirst_19 : decode b_Heap_isFirst 19 = .ok (.isub, 1) := by decide +kernel
theorem d_Heap_isFirst_20 : decode b_Heap_isFirst 20 = .ok (.iaload, 1) := by decide +kernel
theorem d_Heap_isFirst_21 : decode b_Heap_isFirst 21 = .ok (.aload_n 0, 1) := by decide +kernel
theorem d_Heap_isFirst_22 : decode b_Heap_isFirst 22 = .ok (.getfield 9, 3) := by decide +kernel
theorem d_Heap_isFirst_25 : decode b_Heap_isFirst 25 = .ok (.iload_n 1, 1) := by decide +kernel
theorem d_Heap_isFirst_26 : decode b_Heap_isFirst 26 = .ok (.iaload, 1) := by decide +kernel
theorem d_Heap_isFirst_27 : decode b_Heap_isFirst 27 = .ok (.if_icmp .eq 7, 3) := by decide +kernel
theorem d_Heap_isFirst_30 : decode b_Heap_isFirst 30 = .ok (.iconst 1, 1) := by decide +kernel
theorem d_Heap_isFirst_31 : decode b_Heap_isFirst 31 = .ok (.goto 4, 3) := by decide +kernel
theorem d_Heap_isFirst_34 : decode b_Heap_isFirst 34 = .ok (.iconst 0, 1) := by decide +kernel
theorem d_Heap_isFirst_35 : decode b_Heap_isFirst 35 = .ok (.ireturn, 1) := by decide +kernel
theorem d_Heap_isUncounted_0 : decode b_Heap_isUncounted 0 = .ok (.aload_n 0, 1) := by decide +kernel
theorem d_Heap_isUncounted_1 : decode b_Heap_isUncounted 1 = .ok (.iload_n 1, 1) := by decide +kernel
theorem d_Heap_isUncounted_2 : decode b_Heap_isUncounted 2 = .ok (.invokevirtual 37, 3) := by decide +kernel
theorem d_Heap_isUncounted_5 : decode b_Heap_isUncounted 5 = .ok (.ifCond .eq 16, 3) := by decide +kernel
theorem d_Heap_isUncounted_8 : decode b_Heap_isUncounted 8 = .ok (.aload_n 0, 1) := by decide +kernel
theorem d_Heap_isUncounted_9 : decode b_Heap_isUncounted 9 = .ok (.getfield 15, 3) := by decide +kernel
theorem d_Heap_isUncounted_12 : decode b_Heap_isUncounted 12 = .ok (.iload_n 1, 1) := by decide +kernel
theorem d_Heap_isUncounted_13 : decode b_Heap_isUncounted 13 = .ok (.iaload, 1) := by decide +kernel
theorem d_Heap_isUncounted_14 : decode b_Heap_isUncounted 14 = .ok (.ifCond .ne 7, 3) := by decide +kernel
theorem d_Heap_isUncounted_17 : decode b_Heap_isUncounted 17 = .ok (.iconst 1, 1) := by decide +kernel
theorem d_Heap_isUncounted_18 : decode b_Heap_isUncounted 18 = .ok (.goto 4, 3) := by decide +kernel
theorem d_Heap_isUncounted_21 : decode b_Heap_isUncounted 21 = .ok (.iconst 0, 1) := by decide +kernel
theorem d_Heap_isUncounted_22 : decode b_Heap_isUncounted 22 = .ok (.ireturn, 1) := by decide +kernel
theorem d_Heap_objects_0 : decode b_Heap_objects 0 = .ok (.iconst 0, 1) := by decide +kernel
theorem d_Heap_objects_1 : decode b_Heap_objects 1 = .ok (.istore_n 1, 1) := by decide +kernel
theorem d_Heap_objects_2 : decode b_Heap_objects 2 = .ok (.iconst 0, 1) := by decide +kernel
theorem d_Heap_objects_3 : decode b_Heap_objects 3 = .ok (.istore_n 2, 1) := by decide +kernel
theorem d_Heap_objects_4 : decode b_Heap_objects 4 = .ok (.iload_n 2, 1) := by decide +kernel
theorem d_Heap_objects_5 : decode b_Heap_objects 5 = .ok (.bipush 48, 2) := by decide +kernel
theorem d_Heap_objects_7 : decode b_Heap_objects 7 = .ok (.if_icmp .ge 25, 3) := by decide +kernel
theorem d_Heap_objects_10 : decode b_Heap_objects 10 = .ok (.iload_n 1, 1) := by decide +kernel
theorem d_Heap_objects_11 : decode b_Heap_objects 11 = .ok (.aload_n 0, 1) := by decide +kernel
theorem d_Heap_objects_12 : decode b_Heap_objects 12 = .ok (.iload_n 2, 1) := by decide +kernel
theorem d_Heap_objects_13 : decode b_Heap_objects 13 = .ok (.invokevirtual 37, 3) := by decide +kernel
theorem d_Heap_objects_16 : decode b_Heap_objects 16 = .ok (.ifCond .eq 7, 3) := by decide +kernel
theorem d_Heap_objects_19 : decode b_Heap_objects 19 = .ok (.iconst 1, 1) := by decide +kernel
theorem d_Heap_objects_20 : decode b_Heap_objects 20 = .ok (.goto 4, 3) := by decide +kernel
theorem d_Heap_objects_23 : decode b_Heap_objects 23 = .ok (.iconst 0, 1) := by decide +kernel
theorem d_Heap_objects_24 : decode b_Heap_objects 24 = .ok (.iadd, 1) := by decide +kernel
theorem d_Heap_objects_25 : decode b_Heap_objects 25 = .ok (.istore_n 1, 1) := by decide +kernel
theorem d_Heap_objects_26 : decode b_Heap_objects 26 = .ok (.iinc 2 1, 3) := by decide +kernel
theorem d_Heap_objects_29 : decode b_Heap_objects 29 = .ok (.goto (-25), 3) := by decide +kernel
theorem d_Heap_objects_32 : decode b_Heap_objects 32 = .ok (.iload_n 1, 1) := by decide +kernel
theorem d_Heap_objects_33 : decode b_Heap_objects 33 = .ok (.ireturn, 1) := by decide +kernel
theorem d_Heap_uncountedObjects_0 : decode b_Heap_uncountedObjects 0 = .ok (.iconst 0, 1) := by decide +kernel
theorem d_Heap_uncountedObjects_1 : decode b_Heap_uncountedObjects 1 = .ok (.istore_n 1, 1) := by decide +kernel
theorem d_Heap_uncountedObjects_2 : decode b_Heap_uncountedObjects 2 = .ok (.iconst 0, 1) := by decide +kernel
theorem d_Heap_uncountedObjects_3 : decode b_Heap_uncountedObjects 3 = .ok (.istore_n 2, 1) := by decide +kernel
theorem d_Heap_uncountedObjects_4 : decode b_Heap_uncountedObjects 4 = .ok (.iload_n 2, 1) := by decide +kernel
theorem d_Heap_uncountedObjects_5 : decode b_Heap_uncountedObjects 5 = .ok (.bipush 48, 2) := by decide +kernel
theorem d_Heap_uncountedObjects_7 : decode b_Heap_uncountedObjects 7 = .ok (.if_icmp .ge 25, 3) := by decide +kernel
theorem d_Heap_uncountedObjects_10 : decode b_Heap_uncountedObjects 10 = .ok (.iload_n 1, 1) := by decide +kernel
theorem d_Heap_uncountedObjects_11 : decode b_Heap_uncountedObjects 11 = .ok (.aload_n 0, 1) := by decide +kernel
theorem d_Heap_uncountedObjects_12 : decode b_Heap_uncountedObjects 12 = .ok (.iload_n 2, 1) := by decide +kernel
theorem d_Heap_uncountedObjects_13 : decode b_Heap_uncountedObjects 13 = .ok (.invokevirtual 41, 3) := by decide +kernel
theorem d_Heap_uncountedObjects_16 : decode b_Heap_uncountedObjects 16 = .ok (.ifCond .eq 7, 3) := by decide +kernel
theorem d_Heap_uncountedObjects_19 : decode b_Heap_uncountedObjects 19 = .ok (.iconst 1, 1) := by decide +kernel
theorem d_Heap_uncountedObjects_20 : decode b_Heap_uncountedObjects 20 = .ok (.goto 4, 3) := by decide +kernel
theorem d_Heap_uncountedObjects_23 : decode b_Heap_uncountedObjects 23 = .ok (.iconst 0, 1) := by decide +kernel
theorem d_Heap_uncountedObjects_24 : decode b_Heap_uncountedObjects 24 = .ok (.iadd, 1) := by decide +kernel
theorem d_Heap_uncountedObjects_25 : decode b_Heap_uncountedObjects 25 = .ok (.istore_n 1, 1) := by decide +kernel
theorem d_Heap_uncountedObjects_26 : decode b_Heap_uncountedObjects 26 = .ok (.iinc 2 1, 3) := by decide +kernel
theorem d_Heap_uncountedObjects_29 : decode b_Heap_uncountedObjects 29 = .ok (.goto (-25), 3) := by decide +kernel
theorem d_Heap_uncountedObjects_32 : decode b_Heap_uncountedObjects 32 = .ok (.iload_n 1, 1) := by decide +kernel
theorem d_Heap_uncountedObjects_33 : decode b_Heap_uncountedObjects 33 = .ok (.ireturn, 1) := by decide +kernel
theorem d_Heap_freeCells_0 : decode b_Heap_freeCells 0 = .ok (.iconst 0, 1) := by decide +kernel
theorem d_Heap_freeCells_1 : decode b_Heap_freeCells 1 = .ok (.istore_n 1, 1) := by decide +kernel
theorem d_Heap_freeCells_2 : decode b_Heap_freeCells 2 = .ok (.iconst 0, 1) := by decide +kernel
theorem d_Heap_freeCells_3 : decode b_Heap_freeCells 3 = .ok (.istore_n 2, 1) := by decide +kernel
theorem d_Heap_freeCells_4 : decode b_Heap_freeCells 4 = .ok (.iload_n 2, 1) := by decide +kernel
theorem d_Heap_freeCells_5 : decode b_Heap_freeCells 5 = .ok (.bipush 48, 2) := by decide +kernel
theorem d_Heap_freeCells_7 : decode b_Heap_freeCells 7 = .ok (.if_icmp .ge 26, 3) := by decide +kernel
theorem d_Heap_freeCells_10 : decode b_Heap_freeCells 10 = .ok (.iload_n 1, 1) := by decide +kernel
theorem d_Heap_freeCells_11 : decode b_Heap_freeCells 11 = .ok (.aload_n 0, 1) := by decide +kernel
theorem d_Heap_freeCells_12 : decode b_Heap_freeCells 12 = .ok (.getfield 9, 3) := by decide +kernel
theorem d_Heap_freeCells_15 : decode b_Heap_freeCells 15 = .ok (.iload_n 2, 1) := by decide +kernel
theorem d_Heap_freeCells_16 : decode b_Heap_freeCells 16 = .ok (.iaload, 1) := by decide +kernel
theorem d_Heap_freeCells_17 : decode b_Heap_freeCells 17 = .ok (.ifCond .ne 7, 3) := by decide +kernel
theorem d_Heap_freeCells_20 : decode b_Heap_freeCells 20 = .ok (.iconst 1, 1) := by decide +kernel
theorem d_Heap_freeCells_21 : decode b_Heap_freeCells 21 = .ok (.goto 4, 3) := by decide +kernel
theorem d_Heap_freeCells_24 : decode b_Heap_freeCells 24 = .ok (.iconst 0, 1) := by decide +kernel
theorem d_Heap_freeCells_25 : decode b_Heap_freeCells 25 = .ok (.iadd, 1) := by decide +kernel
theorem d_Heap_freeCells_26 : decode b_Heap_freeCells 26 = .ok (.istore_n 1, 1) := by decide +kernel
theorem d_Heap_freeCells_27 : decode b_Heap_freeCells 27 = .ok (.iinc 2 1, 3) := by decide +kernel
theorem d_Heap_freeCells_30 : decode b_Heap_freeCells 30 = .ok (.goto (-26), 3) := by decide +kernel
theorem d_Heap_freeCells_33 : decode b_Heap_freeCells 33 = .ok (.iload_n 1, 1) := by decide +kernel
theorem d_Heap_freeCells_34 : decode b_Heap_freeCells 34 = .ok (.ireturn, 1) := by decide +kernel
