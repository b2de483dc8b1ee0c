/-! decode rows -/
theorem dX1_init_0 : decode mX1_init.2.1 0 = .ok (.aload_n 0, 1) := by decide +kernel
theorem dX1_init_1 : decode mX1_init.2.1 1 = .ok (.invokespecial 3, 3) := by decide +kernel
theorem dX1_init_4 : decode mX1_init.2.1 4 = .ok (.aload_n 0, 1) := by decide +kernel
theorem dX1_init_5 : decode mX1_init.2.1 5 = .ok (.bipush 60, 2) := by decide +kernel
theorem dX1_init_7 : decode mX1_init.2.1 7 = .ok (.anewarray 9, 3) := by decide +kernel
theorem dX1_init_10 : decode mX1_init.2.1 10 = .ok (.putfield 11, 3) := by decide +kernel
theorem dX1_init_13 : decode mX1_init.2.1 13 = .ok (.iconst 0, 1) := by decide +kernel
theorem dX1_init_14 : decode mX1_init.2.1 14 = .ok (.istore_n 1, 1) := by decide +kernel
theorem dX1_init_15 : decode mX1_init.2.1 15 = .ok (.iload_n 1, 1) := by decide +kernel
theorem dX1_init_16 : decode mX1_init.2.1 16 = .ok (.bipush 60, 2) := by decide +kernel
theorem dX1_init_18 : decode mX1_init.2.1 18 = .ok (.if_icmp .ge 23, 3) := by decide +kernel
theorem dX1_init_21 : decode mX1_init.2.1 21 = .ok (.aload_n 0, 1) := by decide +kernel
theorem dX1_init_22 : decode mX1_init.2.1 22 = .ok (.getfield 11, 3) := by decide +kernel
theorem dX1_init_25 : decode mX1_init.2.1 25 = .ok (.iload_n 1, 1) := by decide +kernel
theorem dX1_init_26 : decode mX1_init.2.1 26 = .ok (.new 9, 3) := by decide +kernel
theorem dX1_init_29 : decode mX1_init.2.1 29 = .ok (.dup, 1) := by decide +kernel
theorem dX1_init_30 : decode mX1_init.2.1 30 = .ok (.iload_n 1, 1) := by decide +kernel
theorem dX1_init_31 : decode mX1_init.2.1 31 = .ok (.invokespecial 17, 3) := by decide +kernel
theorem dX1_init_34 : decode mX1_init.2.1 34 = .ok (.aastore, 1) := by decide +kernel
theorem dX1_init_35 : decode mX1_init.2.1 35 = .ok (.iinc 1 1, 3) := by decide +kernel
theorem dX1_init_38 : decode mX1_init.2.1 38 = .ok (.goto (-23), 3) := by decide +kernel
theorem dX1_init_41 : decode mX1_init.2.1 41 = .ok (.return_, 1) := by decide +kernel
theorem dX1_countAt_0 : decode mX1_countAt.2.1 0 = .ok (.iconst 0, 1) := by decide +kernel
theorem dX1_countAt_1 : decode mX1_countAt.2.1 1 = .ok (.istore_n 2, 1) := by decide +kernel
theorem dX1_countAt_2 : decode mX1_countAt.2.1 2 = .ok (.iconst 0, 1) := by decide +kernel
theorem dX1_countAt_3 : decode mX1_countAt.2.1 3 = .ok (.istore_n 3, 1) := by decide +kernel
theorem dX1_countAt_4 : decode mX1_countAt.2.1 4 = .ok (.iload_n 3, 1) := by decide +kernel
theorem dX1_countAt_5 : decode mX1_countAt.2.1 5 = .ok (.bipush 60, 2) := by decide +kernel
theorem dX1_countAt_7 : decode mX1_countAt.2.1 7 = .ok (.if_icmp .ge 25, 3) := by decide +kernel
theorem dX1_countAt_10 : decode mX1_countAt.2.1 10 = .ok (.aload_n 0, 1) := by decide +kernel
theorem dX1_countAt_11 : decode mX1_countAt.2.1 11 = .ok (.getfield 11, 3) := by decide +kernel
theorem dX1_countAt_14 : decode mX1_countAt.2.1 14 = .ok (.iload_n 3, 1) := by decide +kernel
theorem dX1_countAt_15 : decode mX1_countAt.2.1 15 = .ok (.aaload, 1) := by decide +kernel
theorem dX1_countAt_16 : decode mX1_countAt.2.1 16 = .ok (.getfield 20, 3) := by decide +kernel
theorem dX1_countAt_19 : decode mX1_countAt.2.1 19 = .ok (.iload_n 1, 1) := by decide +kernel
theorem dX1_countAt_20 : decode mX1_countAt.2.1 20 = .ok (.if_icmp .ne 6, 3) := by decide +kernel
theorem dX1_countAt_23 : decode mX1_countAt.2.1 23 = .ok (.iinc 2 1, 3) := by decide +kernel
theorem dX1_countAt_26 : decode mX1_countAt.2.1 26 = .ok (.iinc 3 1, 3) := by decide +kernel
theorem dX1_countAt_29 : decode mX1_countAt.2.1 29 = .ok (.goto (-25), 3) := by decide +kernel
theorem dX1_countAt_32 : decode mX1_countAt.2.1 32 = .ok (.iload_n 2, 1) := by decide +kernel
theorem dX1_countAt_33 : decode mX1_countAt.2.1 33 = .ok (.ireturn, 1) := by decide +kernel
theorem dX1_tripsOfAll_0 : decode mX1_tripsOfAll.2.1 0 = .ok (.iconst 0, 1) := by decide +kernel
theorem dX1_tripsOfAll_1 : decode mX1_tripsOfAll.2.1 1 = .ok (.istore_n 1, 1) := by decide +kernel
theorem dX1_tripsOfAll_2 : decode mX1_tripsOfAll.2.1 2 = .ok (.iconst 0, 1) := by decide +kernel
theorem dX1_tripsOfAll_3 : decode mX1_tripsOfAll.2.1 3 = .ok (.istore_n 2, 1) := by decide +kernel
theorem dX1_tripsOfAll_4 : decode mX1_tripsOfAll.2.1 4 = .ok (.iload_n 2, 1) := by decide +kernel
theorem dX1_tripsOfAll_5 : decode mX1_tripsOfAll.2.1 5 = .ok (.bipush 60, 2) := by decide +kernel
theorem dX1_tripsOfAll_7 : decode mX1_tripsOfAll.2.1 7 = .ok (.if_icmp .ge 21, 3) := by decide +kernel
theorem dX1_tripsOfAll_10 : decode mX1_tripsOfAll.2.1 10 = .ok (.iload_n 1, 1) := by decide +kernel
theorem dX1_tripsOfAll_11 : decode mX1_tripsOfAll.2.1 11 = .ok (.aload_n 0, 1) := by decide +kernel
theorem dX1_tripsOfAll_12 : decode mX1_tripsOfAll.2.1 12 = .ok (.getfield 11, 3) := by decide +kernel
theorem dX1_tripsOfAll_15 : decode mX1_tripsOfAll.2.1 15 = .ok (.iload_n 2, 1) := by decide +kernel
theorem dX1_tripsOfAll_16 : decode mX1_tripsOfAll.2.1 16 = .ok (.aaload, 1) := by decide +kernel
theorem dX1_tripsOfAll_17 : decode mX1_tripsOfAll.2.1 17 = .ok (.getfield 24, 3) := by decide +kernel
theorem dX1_tripsOfAll_20 : decode mX1_tripsOfAll.2.1 20 = .ok (.iadd, 1) := by decide +kernel
theorem dX1_tripsOfAll_21 : decode mX1_tripsOfAll.2.1 21 = .ok (.istore_n 1, 1) := by decide +kernel
theorem dX1_tripsOfAll_22 : decode mX1_tripsOfAll.2.1 22 = .ok (.iinc 2 1, 3) := by decide +kernel
theorem dX1_tripsOfAll_25 : decode mX1_tripsOfAll.2.1 25 = .ok (.goto (-21), 3) := by decide +kernel
theorem dX1_tripsOfAll_28 : decode mX1_tripsOfAll.2.1 28 = .ok (.iload_n 1, 1) := by decide +kernel
theorem dX1_tripsOfAll_29 : decode mX1_tripsOfAll.2.1 29 = .ok (.ireturn, 1) := by decide +kernel
theorem dX1_farthest_0 : decode mX1_farthest.2.1 0 = .ok (.iconst 0, 1) := by decide +kernel
theorem dX1_farthest_1 : decode mX1_farthest.2.1 1 = .ok (.istore_n 1, 1) := by decide +kernel
theorem dX1_farthest_2 : decode mX1_farthest.2.1 2 = .ok (.iconst 0, 1) := by decide +kernel
theorem dX1_farthest_3 : decode mX1_farthest.2.1 3 = .ok (.istore_n 2, 1) := by decide +kernel
theorem dX1_farthest_4 : decode mX1_farthest.2.1 4 = .ok (.iload_n 2, 1) := by decide +kernel
theorem dX1_farthest_5 : decode mX1_farthest.2.1 5 = .ok (.bipush 60, 2) := by decide +kernel
theorem dX1_farthest_7 : decode mX1_farthest.2.1 7 = .ok (.if_icmp .ge 36, 3) := by decide +kernel
theorem dX1_farthest_10 : decode mX1_farthest.2.1 10 = .ok (.aload_n 0, 1) := by decide +kernel
theorem dX1_farthest_11 : decode mX1_farthest.2.1 11 = .ok (.getfield 11, 3) := by decide +kernel
theorem dX1_farthest_14 : decode mX1_farthest.2.1 14 = .ok (.iload_n 2, 1) := by decide +kernel
theorem dX1_farthest_15 : decode mX1_farthest.2.1 15 = .ok (.aaload, 1) := by decide +kernel
theorem dX1_farthest_16 : decode mX1_farthest.2.1 16 = .ok (.getfield 20, 3) := by decide +kernel
theorem dX1_farthest_19 : decode mX1_farthest.2.1 19 = .ok (.iconst 3, 1) := by decide +kernel
theorem dX1_farthest_20 : decode mX1_farthest.2.1 20 = .ok (.if_icmp .ne 17, 3) := by decide +kernel
theorem dX1_farthest_23 : decode mX1_farthest.2.1 23 = .ok (.iload_n 1, 1) := by decide +kernel
theorem dX1_farthest_24 : decode mX1_farthest.2.1 24 = .ok (.aload_n 0, 1) := by decide +kernel
theorem dX1_farthest_25 : decode mX1_farthest.2.1 25 = .ok (.getfield 11, 3) := by decide +kernel
theorem dX1_farthest_28 : decode mX1_farthest.2.1 28 = .ok (.iload_n 2, 1) := by decide +kernel
theorem dX1_farthest_29 : decode mX1_farthest.2.1 29 = .ok (.aaload, 1) := by decide +kernel
theorem dX1_farthest_30 : decode mX1_farthest.2.1 30 = .ok (.getfield 27, 3) := by decide +kernel
theorem dX1_farthest_33 : decode mX1_farthest.2.1 33 = .ok (.invokestatic 30, 3) := by decide +kernel
theorem dX1_farthest_36 : decode mX1_farthest.2.1 36 = .ok (.istore_n 1, 1) := by decide +kernel
theorem dX1_farthest_37 : decode mX1_farthest.2.1 37 = .ok (.iinc 2 1, 3) := by decide +kernel
theorem dX1_farthest_40 : decode mX1_farthest.2.1 40 = .ok (.goto (-36), 3) := by decide +kernel
theorem dX1_farthest_43 : decode mX1_farthest.2.1 43 = .ok (.iload_n 1, 1) := by decide +kernel
theorem dX1_farthest_44 : decode mX1_farthest.2.1 44 = .ok (.ireturn, 1) := by decide +kernel
theorem dX1_advance_0 : decode mX1_advance.2.1 0 = .ok (.iconst 0, 1) := by decide +kernel
theorem dX1_advance_1 : decode mX1_advance.2.1 1 = .ok (.istore_n 2, 1) := by decide +kernel
theorem dX1_advance_2 : decode mX1_advance.2.1 2 = .ok (.iload_n 2, 1) := by decide +kernel
theorem dX1_advance_3 : decode mX1_advance.2.1 3 = .ok (.bipush 60, 2) := by decide +kernel
theorem dX1_advance_5 : decode mX1_advance.2.1 5 = .ok (.if_icmp .ge 37, 3) := by decide +kernel
theorem dX1_advance_8 : decode mX1_advance.2.1 8 = .ok (.aload_n 0, 1) := by decide +kernel
theorem dX1_advance_9 : decode mX1_advance.2.1 9 = .ok (.getfield 11, 3) := by decide +kernel
theorem dX1_advance_12 : decode mX1_advance.2.1 12 = .ok (.iload_n 2, 1) := by decide +kernel
theorem dX1_advance_13 : decode mX1_advance.2.1 13 = .ok (.aaload, 1) := by decide +kernel
theorem dX1_advance_14 : decode mX1_advance.2.1 14 = .ok (.getfield 20, 3) := by decide +kernel
theorem dX1_advance_17 : decode mX1_advance.2.1 17 = .ok (.iconst 3, 1) := by decide +kernel
theorem dX1_advance_18 : decode mX1_advance.2.1 18 = .ok (.if_icmp .ne 18, 3) := by decide +kernel
theorem dX1_advance_21 : decode mX1_advance.2.1 21 = .ok (.aload_n 0, 1) := by decide +kernel
theorem dX1_advance_22 : decode mX1_advance.2.1 22 = .ok (.getfield 11, 3) := by decide +kernel
theorem dX1_advance_25 : decode mX1_advance.2.1 25 = .ok (.iload_n 2, 1) := by decide +kernel
theorem dX1_advance_26 : decode mX1_advance.2.1 26 = .ok (.aaload, 1) := by decide +kernel
theorem dX1_advance_27 : decode mX1_advance.2.1 27 = .ok (.dup, 1) := by decide +kernel
theorem dX1_advance_28 : decode mX1_advance.2.1 28 = .ok (.getfield 27, 3) := by decide +kernel
theorem dX1_advance_31 : decode mX1_advance.2.1 31 = .ok (.iload_n 1, 1) := by decide +kernel
theorem dX1_advance_32 : decode mX1_advance.2.1 32 = .ok (.iadd, 1) := by decide +kernel
theorem dX1_advance_33 : decode mX1_advance.2.1 33 = .ok (.putfield 27, 3) := by decide +kernel
theorem dX1_advance_36 : decode mX1_advance.2.1 36 = .ok (.iinc 2 1, 3) := by decide +kernel
theorem dX1_advance_39 : decode mX1_advance.2.1 39 = .ok (.goto (-37), 3) := by decide +kernel
theorem dX1_advance_42 : decode mX1_advance.2.1 42 = .ok (.return_, 1) := by decide +kernel
theorem dX1_isClear_0 : decode mX1_isClear.2.1 0 = .ok (.iconst 0, 1) := by decide +kernel
theorem dX1_isClear_1 : decode mX1_isClear.2.1 1 = .ok (.istore_n 3, 1) := by decide +kernel
theorem dX1_isClear_2 : decode mX1_isClear.2.1 2 = .ok (.iload_n 3, 1) := by decide +kernel
theorem dX1_isClear_3 : decode mX1_isClear.2.1 3 = .ok (.bipush 60, 2) := by decide +kernel
theorem dX1_isClear_5 : decode mX1_isClear.2.1 5 = .ok (.if_icmp .ge 37, 3) := by decide +kernel
theorem dX1_isClear_8 : decode mX1_isClear.2.1 8 = .ok (.aload_n 0, 1) := by decide +kernel
theorem dX1_isClear_9 : decode mX1_isClear.2.1 9 = .ok (.getfield 11, 3) := by decide +kernel
theorem dX1_isClear_12 : decode mX1_isClear.2.1 12 = .ok (.iload_n 3, 1) := by decide +kernel
theorem dX1_isClear_13 : decode mX1_isClear.2.1 13 = .ok (.aaload, 1) := by decide +kernel
theorem dX1_isClear_14 : decode mX1_isClear.2.1 14 = .ok (.iload_n 1, 1) := by decide +kernel
theorem dX1_isClear_15 : decode mX1_isClear.2.1 15 = .ok (.invokestatic 36, 3) := by decide +kernel
theorem dX1_isClear_18 : decode mX1_isClear.2.1 18 = .ok (.ifCond .eq 18, 3) := by decide +kernel
theorem dX1_isClear_21 : decode mX1_isClear.2.1 21 = .ok (.aload_n 0, 1) := by decide +kernel
theorem dX1_isClear_22 : decode mX1_isClear.2.1 22 = .ok (.getfield 11, 3) := by decide +kernel
theorem dX1_isClear_25 : decode mX1_isClear.2.1 25 = .ok (.iload_n 3, 1) := by decide +kernel
theorem dX1_isClear_26 : decode mX1_isClear.2.1 26 = .ok (.aaload, 1) := by decide +kernel
theorem dX1_isClear_27 : decode mX1_isClear.2.1 27 = .ok (.getfield 27, 3) := by decide +kernel
theorem dX1_isClear_30 : decode mX1_isClear.2.1 30 = .ok (.iload_n 2, 1) := by decide +kernel
theorem dX1_isClear_31 : decode mX1_isClear.2.1 31 = .ok (.if_icmp .ge 5, 3) := by decide +kernel
theorem dX1_isClear_34 : decode mX1_isClear.2.1 34 = .ok (.iconst 0, 1) := by decide +kernel
theorem dX1_isClear_35 : decode mX1_isClear.2.1 35 = .ok (.ireturn, 1) := by decide +kernel
theorem dX1_isClear_36 : decode mX1_isClear.2.1 36 = .ok (.iinc 3 1, 3) := by decide +kernel
theorem dX1_isClear_39 : decode mX1_isClear.2.1 39 = .ok (.goto (-37), 3) := by decide +kernel
theorem dX1_isClear_42 : decode mX1_isClear.2.1 42 = .ok (.iconst 1, 1) := by decide +kernel
theorem dX1_isClear_43 : decode mX1_isClear.2.1 43 = .ok (.ireturn, 1) := by decide +kernel
theorem dX1_hasNearEnd_0 : decode mX1_hasNearEnd.2.1 0 = .ok (.iconst 0, 1) := by decide +kernel
theorem dX1_hasNearEnd_1 : decode mX1_hasNearEnd.2.1 1 = .ok (.istore_n 2, 1) := by decide +kernel
theorem dX1_hasNearEnd_2 : decode mX1_hasNearEnd.2.1 2 = .ok (.iload_n 2, 1) := by decide +kernel
theorem dX1_hasNearEnd_3 : decode mX1_hasNearEnd.2.1 3 = .ok (.bipush 60, 2) := by decide +kernel
theorem dX1_hasNearEnd_5 : decode mX1_hasNearEnd.2.1 5 = .ok (.if_icmp .ge 39, 3) := by decide +kernel
theorem dX1_hasNearEnd_8 : decode mX1_hasNearEnd.2.1 8 = .ok (.aload_n 0, 1) := by decide +kernel
theorem dX1_hasNearEnd_9 : decode mX1_hasNearEnd.2.1 9 = .ok (.getfield 11, 3) := by decide +kernel
theorem dX1_hasNearEnd_12 : decode mX1_hasNearEnd.2.1 12 = .ok (.iload_n 2, 1) := by decide +kernel
theorem dX1_hasNearEnd_13 : decode mX1_hasNearEnd.2.1 13 = .ok (.aaload, 1) := by decide +kernel
theorem dX1_hasNearEnd_14 : decode mX1_hasNearEnd.2.1 14 = .ok (.iload_n 1, 1) := by decide +kernel
theorem dX1_hasNearEnd_15 : decode mX1_hasNearEnd.2.1 15 = .ok (.invokestatic 36, 3) := by decide +kernel
theorem dX1_hasNearEnd_18 : decode mX1_hasNearEnd.2.1 18 = .ok (.ifCond .eq 20, 3) := by decide +kernel
theorem dX1_hasNearEnd_21 : decode mX1_hasNearEnd.2.1 21 = .ok (.aload_n 0, 1) := by decide +kernel
theorem dX1_hasNearEnd_22 : decode mX1_hasNearEnd.2.1 22 = .ok (.getfield 11, 3) := by decide +kernel
theorem dX1_hasNearEnd_25 : decode mX1_hasNearEnd.2.1 25 = .ok (.iload_n 2, 1) := by decide +kernel
theorem dX1_hasNearEnd_26 : decode mX1_hasNearEnd.2.1 26 = .ok (.aaload, 1) := by decide +kernel
theorem dX1_hasNearEnd_27 : decode mX1_hasNearEnd.2.1 27 = .ok (.getfield 27, 3) := by decide +kernel
theorem dX1_hasNearEnd_30 : decode mX1_hasNearEnd.2.1 30 = .ok (.sipush 5640, 3) := by decide +kernel
theorem dX1_hasNearEnd_33 : decode mX1_hasNearEnd.2.1 33 = .ok (.if_icmp .lt 5, 3) := by decide +kernel
theorem dX1_hasNearEnd_36 : decode mX1_hasNearEnd.2.1 36 = .ok (.iconst 1, 1) := by decide +kernel
theorem dX1_hasNearEnd_37 : decode mX1_hasNearEnd.2.1 37 = .ok (.ireturn, 1) := by decide +kernel
theorem dX1_hasNearEnd_38 : decode mX1_hasNearEnd.2.1 38 = .ok (.iinc 2 1, 3) := by decide +kernel
theorem dX1_hasNearEnd_41 : decode mX1_hasNearEnd.2.1 41 = .ok (.goto (-39), 3) := by decide +kernel
theorem dX1_hasNearEnd_44 : decode mX1_hasNearEnd.2.1 44 = .ok (.iconst 0, 1) := by decide +kernel
theorem dX1_hasNearEnd_45 : decode mX1_hasNearEnd.2.1 45 = .ok (.ireturn, 1) := by decide +kernel
theorem dX1_wayAhead_0 : decode mX1_wayAhead.2.1 0 = .ok (.sipush 12000, 3) := by decide +kernel
theorem dX1_wayAhead_3 : decode mX1_wayAhead.2.1 3 = .ok (.istore_n 2, 1) := by decide +kernel
theorem dX1_wayAhead_4 : decode mX1_wayAhead.2.1 4 = .ok (.iconst 0, 1) := by decide +kernel
theorem dX1_wayAhead_5 : decode mX1_wayAhead.2.1 5 = .ok (.istore_n 3, 1) := by decide +kernel
theorem dX1_wayAhead_6 : decode mX1_wayAhead.2.1 6 = .ok (.iload_n 3, 1) := by decide +kernel
theorem dX1_wayAhead_7 : decode mX1_wayAhead.2.1 7 = .ok (.bipush 60, 2) := by decide +kernel
theorem dX1_wayAhead_9 : decode mX1_wayAhead.2.1 9 = .ok (.if_icmp .ge 53, 3) := by decide +kernel
theorem dX1_wayAhead_12 : decode mX1_wayAhead.2.1 12 = .ok (.aload_n 0, 1) := by decide +kernel
theorem dX1_wayAhead_13 : decode mX1_wayAhead.2.1 13 = .ok (.getfield 11, 3) := by decide +kernel
theorem dX1_wayAhead_16 : decode mX1_wayAhead.2.1 16 = .ok (.iload_n 3, 1) := by decide +kernel
theorem dX1_wayAhead_17 : decode mX1_wayAhead.2.1 17 = .ok (.aaload, 1) := by decide +kernel
theorem dX1_wayAhead_18 : decode mX1_wayAhead.2.1 18 = .ok (.astore 4, 2) := by decide +kernel
theorem dX1_wayAhead_20 : decode mX1_wayAhead.2.1 20 = .ok (.aload 4, 2) := by decide +kernel
theorem dX1_wayAhead_22 : decode mX1_wayAhead.2.1 22 = .ok (.aload_n 1, 1) := by decide +kernel
theorem dX1_wayAhead_23 : decode mX1_wayAhead.2.1 23 = .ok (.if_acmp .eq 33, 3) := by decide +kernel
theorem dX1_wayAhead_26 : decode mX1_wayAhead.2.1 26 = .ok (.aload 4, 2) := by decide +kernel
theorem dX1_wayAhead_28 : decode mX1_wayAhead.2.1 28 = .ok (.getfield 20, 3) := by decide +kernel
theorem dX1_wayAhead_31 : decode mX1_wayAhead.2.1 31 = .ok (.iconst 3, 1) := by decide +kernel
theorem dX1_wayAhead_32 : decode mX1_wayAhead.2.1 32 = .ok (.if_icmp .ne 24, 3) := by decide +kernel
theorem dX1_wayAhead_35 : decode mX1_wayAhead.2.1 35 = .ok (.iload_n 2, 1) := by decide +kernel
theorem dX1_wayAhead_36 : decode mX1_wayAhead.2.1 36 = .ok (.aload 4, 2) := by decide +kernel
theorem dX1_wayAhead_38 : decode mX1_wayAhead.2.1 38 = .ok (.invokestatic 40, 3) := by decide +kernel
theorem dX1_wayAhead_41 : decode mX1_wayAhead.2.1 41 = .ok (.aload_n 1, 1) := by decide +kernel
theorem dX1_wayAhead_42 : decode mX1_wayAhead.2.1 42 = .ok (.invokestatic 40, 3) := by decide +kernel
theorem dX1_wayAhead_45 : decode mX1_wayAhead.2.1 45 = .ok (.isub, 1) := by decide +kernel
theorem dX1_wayAhead_46 : decode mX1_wayAhead.2.1 46 = .ok (.sipush 12000, 3) := by decide +kernel
theorem dX1_wayAhead_49 : decode mX1_wayAhead.2.1 49 = .ok (.invokestatic 44, 3) := by decide +kernel
theorem dX1_wayAhead_52 : decode mX1_wayAhead.2.1 52 = .ok (.invokestatic 47, 3) := by decide +kernel
theorem dX1_wayAhead_55 : decode mX1_wayAhead.2.1 55 = .ok (.istore_n 2, 1) := by decide +kernel
theorem dX1_wayAhead_56 : decode mX1_wayAhead.2.1 56 = .ok (.iinc 3 1, 3) := by decide +kernel
theorem dX1_wayAhead_59 : decode mX1_wayAhead.2.1 59 = .ok (.goto (-53), 3) := by decide +kernel
theorem dX1_wayAhead_62 : decode mX1_wayAhead.2.1 62 = .ok (.iload_n 2, 1) := by decide +kernel
theorem dX1_wayAhead_63 : decode mX1_wayAhead.2.1 63 = .ok (.ireturn, 1) := by decide +kernel
theorem dX1_hasLeft_0 : decode mX1_hasLeft.2.1 0 = .ok (.aload_n 0, 1) := by decide +kernel
theorem dX1_hasLeft_1 : decode mX1_hasLeft.2.1 1 = .ok (.getfield 20, 3) := by decide +kernel
theorem dX1_hasLeft_4 : decode mX1_hasLeft.2.1 4 = .ok (.iconst 3, 1) := by decide +kernel
theorem dX1_hasLeft_5 : decode mX1_hasLeft.2.1 5 = .ok (.if_icmp .ne 15, 3) := by decide +kernel
theorem dX1_hasLeft_8 : decode mX1_hasLeft.2.1 8 = .ok (.aload_n 0, 1) := by decide +kernel
theorem dX1_hasLeft_9 : decode mX1_hasLeft.2.1 9 = .ok (.getfield 50, 3) := by decide +kernel
theorem dX1_hasLeft_12 : decode mX1_hasLeft.2.1 12 = .ok (.iload_n 1, 1) := by decide +kernel
theorem dX1_hasLeft_13 : decode mX1_hasLeft.2.1 13 = .ok (.if_icmp .ne 7, 3) := by decide +kernel
theorem dX1_hasLeft_16 : decode mX1_hasLeft.2.1 16 = .ok (.iconst 1, 1) := by decide +kernel
theorem dX1_hasLeft_17 : decode mX1_hasLeft.2.1 17 = .ok (.goto 4, 3) := by decide +kernel
theorem dX1_hasLeft_20 : decode mX1_hasLeft.2.1 20 = .ok (.iconst 0, 1) := by decide +kernel
theorem dX1_hasLeft_21 : decode mX1_hasLeft.2.1 21 = .ok (.ireturn, 1) := by decide +kernel
theorem dX1_spot_0 : decode mX1_spot.2.1 0 = .ok (.sipush 6000, 3) := by decide +kernel
theorem dX1_spot_3 : decode mX1_spot.2.1 3 = .ok (.aload_n 0, 1) := by decide +kernel
theorem dX1_spot_4 : decode mX1_spot.2.1 4 = .ok (.getfield 50, 3) := by decide +kernel
theorem dX1_spot_7 : decode mX1_spot.2.1 7 = .ok (.imul, 1) := by decide +kernel
theorem dX1_spot_8 : decode mX1_spot.2.1 8 = .ok (.aload_n 0, 1) := by decide +kernel
theorem dX1_spot_9 : decode mX1_spot.2.1 9 = .ok (.getfield 27, 3) := by decide +kernel
theorem dX1_spot_12 : decode mX1_spot.2.1 12 = .ok (.iadd, 1) := by decide +kernel
theorem dX1_spot_13 : decode mX1_spot.2.1 13 = .ok (.ireturn, 1) := by decide +kernel
