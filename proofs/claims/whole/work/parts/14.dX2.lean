/-! decode rows -/
theorem dX2_init_0 : decode mX2_init.2.1 0 = .ok (.aload_n 0, 1) := by decide +kernel
theorem dX2_init_1 : decode mX2_init.2.1 1 = .ok (.invokespecial 3, 3) := by decide +kernel
theorem dX2_init_4 : decode mX2_init.2.1 4 = .ok (.aload_n 0, 1) := by decide +kernel
theorem dX2_init_5 : decode mX2_init.2.1 5 = .ok (.bipush 20, 2) := by decide +kernel
theorem dX2_init_7 : decode mX2_init.2.1 7 = .ok (.anewarray 9, 3) := by decide +kernel
theorem dX2_init_10 : decode mX2_init.2.1 10 = .ok (.putfield 11, 3) := by decide +kernel
theorem dX2_init_13 : decode mX2_init.2.1 13 = .ok (.aload_n 0, 1) := by decide +kernel
theorem dX2_init_14 : decode mX2_init.2.1 14 = .ok (.iconst 0, 1) := by decide +kernel
theorem dX2_init_15 : decode mX2_init.2.1 15 = .ok (.putfield 17, 3) := by decide +kernel
theorem dX2_init_18 : decode mX2_init.2.1 18 = .ok (.return_, 1) := by decide +kernel
theorem dX2_hasRoom_0 : decode mX2_hasRoom.2.1 0 = .ok (.aload_n 0, 1) := by decide +kernel
theorem dX2_hasRoom_1 : decode mX2_hasRoom.2.1 1 = .ok (.getfield 17, 3) := by decide +kernel
theorem dX2_hasRoom_4 : decode mX2_hasRoom.2.1 4 = .ok (.bipush 20, 2) := by decide +kernel
theorem dX2_hasRoom_6 : decode mX2_hasRoom.2.1 6 = .ok (.if_icmp .ge 7, 3) := by decide +kernel
theorem dX2_hasRoom_9 : decode mX2_hasRoom.2.1 9 = .ok (.iconst 1, 1) := by decide +kernel
theorem dX2_hasRoom_10 : decode mX2_hasRoom.2.1 10 = .ok (.goto 4, 3) := by decide +kernel
theorem dX2_hasRoom_13 : decode mX2_hasRoom.2.1 13 = .ok (.iconst 0, 1) := by decide +kernel
theorem dX2_hasRoom_14 : decode mX2_hasRoom.2.1 14 = .ok (.ireturn, 1) := by decide +kernel
theorem dX2_cabinAt_0 : decode mX2_cabinAt.2.1 0 = .ok (.iload_n 1, 1) := by decide +kernel
theorem dX2_cabinAt_1 : decode mX2_cabinAt.2.1 1 = .ok (.ifCond .lt 11, 3) := by decide +kernel
theorem dX2_cabinAt_4 : decode mX2_cabinAt.2.1 4 = .ok (.iload_n 1, 1) := by decide +kernel
theorem dX2_cabinAt_5 : decode mX2_cabinAt.2.1 5 = .ok (.aload_n 0, 1) := by decide +kernel
theorem dX2_cabinAt_6 : decode mX2_cabinAt.2.1 6 = .ok (.getfield 17, 3) := by decide +kernel
theorem dX2_cabinAt_9 : decode mX2_cabinAt.2.1 9 = .ok (.if_icmp .lt 7, 3) := by decide +kernel
theorem dX2_cabinAt_12 : decode mX2_cabinAt.2.1 12 = .ok (.aconst_null, 1) := by decide +kernel
theorem dX2_cabinAt_13 : decode mX2_cabinAt.2.1 13 = .ok (.goto 9, 3) := by decide +kernel
theorem dX2_cabinAt_16 : decode mX2_cabinAt.2.1 16 = .ok (.aload_n 0, 1) := by decide +kernel
theorem dX2_cabinAt_17 : decode mX2_cabinAt.2.1 17 = .ok (.getfield 11, 3) := by decide +kernel
theorem dX2_cabinAt_20 : decode mX2_cabinAt.2.1 20 = .ok (.iload_n 1, 1) := by decide +kernel
theorem dX2_cabinAt_21 : decode mX2_cabinAt.2.1 21 = .ok (.aaload, 1) := by decide +kernel
theorem dX2_cabinAt_22 : decode mX2_cabinAt.2.1 22 = .ok (.areturn, 1) := by decide +kernel
theorem dX2_append_0 : decode mX2_append.2.1 0 = .ok (.aload_n 0, 1) := by decide +kernel
theorem dX2_append_1 : decode mX2_append.2.1 1 = .ok (.invokevirtual 21, 3) := by decide +kernel
theorem dX2_append_4 : decode mX2_append.2.1 4 = .ok (.ifCond .eq 28, 3) := by decide +kernel
theorem dX2_append_7 : decode mX2_append.2.1 7 = .ok (.aload_n 1, 1) := by decide +kernel
theorem dX2_append_8 : decode mX2_append.2.1 8 = .ok (.iconst 1, 1) := by decide +kernel
theorem dX2_append_9 : decode mX2_append.2.1 9 = .ok (.invokevirtual 25, 3) := by decide +kernel
theorem dX2_append_12 : decode mX2_append.2.1 12 = .ok (.aload_n 0, 1) := by decide +kernel
theorem dX2_append_13 : decode mX2_append.2.1 13 = .ok (.getfield 11, 3) := by decide +kernel
theorem dX2_append_16 : decode mX2_append.2.1 16 = .ok (.aload_n 0, 1) := by decide +kernel
theorem dX2_append_17 : decode mX2_append.2.1 17 = .ok (.getfield 17, 3) := by decide +kernel
theorem dX2_append_20 : decode mX2_append.2.1 20 = .ok (.aload_n 1, 1) := by decide +kernel
theorem dX2_append_21 : decode mX2_append.2.1 21 = .ok (.aastore, 1) := by decide +kernel
theorem dX2_append_22 : decode mX2_append.2.1 22 = .ok (.aload_n 0, 1) := by decide +kernel
theorem dX2_append_23 : decode mX2_append.2.1 23 = .ok (.dup, 1) := by decide +kernel
theorem dX2_append_24 : decode mX2_append.2.1 24 = .ok (.getfield 17, 3) := by decide +kernel
theorem dX2_append_27 : decode mX2_append.2.1 27 = .ok (.iconst 1, 1) := by decide +kernel
theorem dX2_append_28 : decode mX2_append.2.1 28 = .ok (.iadd, 1) := by decide +kernel
theorem dX2_append_29 : decode mX2_append.2.1 29 = .ok (.putfield 17, 3) := by decide +kernel
theorem dX2_append_32 : decode mX2_append.2.1 32 = .ok (.return_, 1) := by decide +kernel
theorem dX2_remove_0 : decode mX2_remove.2.1 0 = .ok (.aload_n 0, 1) := by decide +kernel
theorem dX2_remove_1 : decode mX2_remove.2.1 1 = .ok (.aload_n 1, 1) := by decide +kernel
theorem dX2_remove_2 : decode mX2_remove.2.1 2 = .ok (.invokevirtual 29, 3) := by decide +kernel
theorem dX2_remove_5 : decode mX2_remove.2.1 5 = .ok (.istore_n 2, 1) := by decide +kernel
theorem dX2_remove_6 : decode mX2_remove.2.1 6 = .ok (.iload_n 2, 1) := by decide +kernel
theorem dX2_remove_7 : decode mX2_remove.2.1 7 = .ok (.ifCond .ge 4, 3) := by decide +kernel
theorem dX2_remove_10 : decode mX2_remove.2.1 10 = .ok (.return_, 1) := by decide +kernel
theorem dX2_remove_11 : decode mX2_remove.2.1 11 = .ok (.iload_n 2, 1) := by decide +kernel
theorem dX2_remove_12 : decode mX2_remove.2.1 12 = .ok (.iconst 1, 1) := by decide +kernel
theorem dX2_remove_13 : decode mX2_remove.2.1 13 = .ok (.iadd, 1) := by decide +kernel
theorem dX2_remove_14 : decode mX2_remove.2.1 14 = .ok (.istore_n 3, 1) := by decide +kernel
theorem dX2_remove_15 : decode mX2_remove.2.1 15 = .ok (.iload_n 3, 1) := by decide +kernel
theorem dX2_remove_16 : decode mX2_remove.2.1 16 = .ok (.aload_n 0, 1) := by decide +kernel
theorem dX2_remove_17 : decode mX2_remove.2.1 17 = .ok (.getfield 17, 3) := by decide +kernel
theorem dX2_remove_20 : decode mX2_remove.2.1 20 = .ok (.if_icmp .ge 23, 3) := by decide +kernel
theorem dX2_remove_23 : decode mX2_remove.2.1 23 = .ok (.aload_n 0, 1) := by decide +kernel
theorem dX2_remove_24 : decode mX2_remove.2.1 24 = .ok (.getfield 11, 3) := by decide +kernel
theorem dX2_remove_27 : decode mX2_remove.2.1 27 = .ok (.iload_n 3, 1) := by decide +kernel
theorem dX2_remove_28 : decode mX2_remove.2.1 28 = .ok (.iconst 1, 1) := by decide +kernel
theorem dX2_remove_29 : decode mX2_remove.2.1 29 = .ok (.isub, 1) := by decide +kernel
theorem dX2_remove_30 : decode mX2_remove.2.1 30 = .ok (.aload_n 0, 1) := by decide +kernel
theorem dX2_remove_31 : decode mX2_remove.2.1 31 = .ok (.getfield 11, 3) := by decide +kernel
theorem dX2_remove_34 : decode mX2_remove.2.1 34 = .ok (.iload_n 3, 1) := by decide +kernel
theorem dX2_remove_35 : decode mX2_remove.2.1 35 = .ok (.aaload, 1) := by decide +kernel
theorem dX2_remove_36 : decode mX2_remove.2.1 36 = .ok (.aastore, 1) := by decide +kernel
theorem dX2_remove_37 : decode mX2_remove.2.1 37 = .ok (.iinc 3 1, 3) := by decide +kernel
theorem dX2_remove_40 : decode mX2_remove.2.1 40 = .ok (.goto (-25), 3) := by decide +kernel
theorem dX2_remove_43 : decode mX2_remove.2.1 43 = .ok (.aload_n 0, 1) := by decide +kernel
theorem dX2_remove_44 : decode mX2_remove.2.1 44 = .ok (.dup, 1) := by decide +kernel
theorem dX2_remove_45 : decode mX2_remove.2.1 45 = .ok (.getfield 17, 3) := by decide +kernel
theorem dX2_remove_48 : decode mX2_remove.2.1 48 = .ok (.iconst 1, 1) := by decide +kernel
theorem dX2_remove_49 : decode mX2_remove.2.1 49 = .ok (.isub, 1) := by decide +kernel
theorem dX2_remove_50 : decode mX2_remove.2.1 50 = .ok (.putfield 17, 3) := by decide +kernel
theorem dX2_remove_53 : decode mX2_remove.2.1 53 = .ok (.aload_n 0, 1) := by decide +kernel
theorem dX2_remove_54 : decode mX2_remove.2.1 54 = .ok (.getfield 11, 3) := by decide +kernel
theorem dX2_remove_57 : decode mX2_remove.2.1 57 = .ok (.aload_n 0, 1) := by decide +kernel
theorem dX2_remove_58 : decode mX2_remove.2.1 58 = .ok (.getfield 17, 3) := by decide +kernel
theorem dX2_remove_61 : decode mX2_remove.2.1 61 = .ok (.aconst_null, 1) := by decide +kernel
theorem dX2_remove_62 : decode mX2_remove.2.1 62 = .ok (.aastore, 1) := by decide +kernel
theorem dX2_remove_63 : decode mX2_remove.2.1 63 = .ok (.return_, 1) := by decide +kernel
theorem dX2_placeOf_0 : decode mX2_placeOf.2.1 0 = .ok (.iconst 0, 1) := by decide +kernel
theorem dX2_placeOf_1 : decode mX2_placeOf.2.1 1 = .ok (.istore_n 2, 1) := by decide +kernel
theorem dX2_placeOf_2 : decode mX2_placeOf.2.1 2 = .ok (.iload_n 2, 1) := by decide +kernel
theorem dX2_placeOf_3 : decode mX2_placeOf.2.1 3 = .ok (.aload_n 0, 1) := by decide +kernel
theorem dX2_placeOf_4 : decode mX2_placeOf.2.1 4 = .ok (.getfield 17, 3) := by decide +kernel
theorem dX2_placeOf_7 : decode mX2_placeOf.2.1 7 = .ok (.if_icmp .ge 21, 3) := by decide +kernel
theorem dX2_placeOf_10 : decode mX2_placeOf.2.1 10 = .ok (.aload_n 0, 1) := by decide +kernel
theorem dX2_placeOf_11 : decode mX2_placeOf.2.1 11 = .ok (.getfield 11, 3) := by decide +kernel
theorem dX2_placeOf_14 : decode mX2_placeOf.2.1 14 = .ok (.iload_n 2, 1) := by decide +kernel
theorem dX2_placeOf_15 : decode mX2_placeOf.2.1 15 = .ok (.aaload, 1) := by decide +kernel
theorem dX2_placeOf_16 : decode mX2_placeOf.2.1 16 = .ok (.aload_n 1, 1) := by decide +kernel
theorem dX2_placeOf_17 : decode mX2_placeOf.2.1 17 = .ok (.if_acmp .ne 5, 3) := by decide +kernel
theorem dX2_placeOf_20 : decode mX2_placeOf.2.1 20 = .ok (.iload_n 2, 1) := by decide +kernel
theorem dX2_placeOf_21 : decode mX2_placeOf.2.1 21 = .ok (.ireturn, 1) := by decide +kernel
theorem dX2_placeOf_22 : decode mX2_placeOf.2.1 22 = .ok (.iinc 2 1, 3) := by decide +kernel
theorem dX2_placeOf_25 : decode mX2_placeOf.2.1 25 = .ok (.goto (-23), 3) := by decide +kernel
theorem dX2_placeOf_28 : decode mX2_placeOf.2.1 28 = .ok (.iconst (-1), 1) := by decide +kernel
theorem dX2_placeOf_29 : decode mX2_placeOf.2.1 29 = .ok (.ireturn, 1) := by decide +kernel
theorem dX3_init_0 : decode mX3_init.2.1 0 = .ok (.aload_n 0, 1) := by decide +kernel
theorem dX3_init_1 : decode mX3_init.2.1 1 = .ok (.invokespecial 3, 3) := by decide +kernel
theorem dX3_init_4 : decode mX3_init.2.1 4 = .ok (.aload_n 0, 1) := by decide +kernel
theorem dX3_init_5 : decode mX3_init.2.1 5 = .ok (.bipush 13, 2) := by decide +kernel
theorem dX3_init_7 : decode mX3_init.2.1 7 = .ok (.anewarray 9, 3) := by decide +kernel
theorem dX3_init_10 : decode mX3_init.2.1 10 = .ok (.putfield 11, 3) := by decide +kernel
theorem dX3_init_13 : decode mX3_init.2.1 13 = .ok (.aload_n 0, 1) := by decide +kernel
theorem dX3_init_14 : decode mX3_init.2.1 14 = .ok (.iload_n 1, 1) := by decide +kernel
theorem dX3_init_15 : decode mX3_init.2.1 15 = .ok (.putfield 17, 3) := by decide +kernel
theorem dX3_init_18 : decode mX3_init.2.1 18 = .ok (.return_, 1) := by decide +kernel
theorem dX3_adm_0 : decode mX3_adm.2.1 0 = .ok (.aload_n 1, 1) := by decide +kernel
theorem dX3_adm_1 : decode mX3_adm.2.1 1 = .ok (.iconst 2, 1) := by decide +kernel
theorem dX3_adm_2 : decode mX3_adm.2.1 2 = .ok (.invokevirtual 21, 3) := by decide +kernel
theorem dX3_adm_5 : decode mX3_adm.2.1 5 = .ok (.aload_n 1, 1) := by decide +kernel
theorem dX3_adm_6 : decode mX3_adm.2.1 6 = .ok (.aload_n 0, 1) := by decide +kernel
theorem dX3_adm_7 : decode mX3_adm.2.1 7 = .ok (.getfield 17, 3) := by decide +kernel
theorem dX3_adm_10 : decode mX3_adm.2.1 10 = .ok (.putfield 25, 3) := by decide +kernel
theorem dX3_adm_13 : decode mX3_adm.2.1 13 = .ok (.aload_n 1, 1) := by decide +kernel
theorem dX3_adm_14 : decode mX3_adm.2.1 14 = .ok (.iload_n 2, 1) := by decide +kernel
theorem dX3_adm_15 : decode mX3_adm.2.1 15 = .ok (.putfield 28, 3) := by decide +kernel
theorem dX3_adm_18 : decode mX3_adm.2.1 18 = .ok (.aload_n 1, 1) := by decide +kernel
theorem dX3_adm_19 : decode mX3_adm.2.1 19 = .ok (.iconst 0, 1) := by decide +kernel
theorem dX3_adm_20 : decode mX3_adm.2.1 20 = .ok (.putfield 31, 3) := by decide +kernel
theorem dX3_adm_23 : decode mX3_adm.2.1 23 = .ok (.aload_n 0, 1) := by decide +kernel
theorem dX3_adm_24 : decode mX3_adm.2.1 24 = .ok (.getfield 11, 3) := by decide +kernel
theorem dX3_adm_27 : decode mX3_adm.2.1 27 = .ok (.iload_n 2, 1) := by decide +kernel
theorem dX3_adm_28 : decode mX3_adm.2.1 28 = .ok (.aload_n 1, 1) := by decide +kernel
theorem dX3_adm_29 : decode mX3_adm.2.1 29 = .ok (.aastore, 1) := by decide +kernel
theorem dX3_adm_30 : decode mX3_adm.2.1 30 = .ok (.return_, 1) := by decide +kernel
theorem dX3_goOn_0 : decode mX3_goOn.2.1 0 = .ok (.aload_n 0, 1) := by decide +kernel
theorem dX3_goOn_1 : decode mX3_goOn.2.1 1 = .ok (.getfield 11, 3) := by decide +kernel
theorem dX3_goOn_4 : decode mX3_goOn.2.1 4 = .ok (.iload_n 1, 1) := by decide +kernel
theorem dX3_goOn_5 : decode mX3_goOn.2.1 5 = .ok (.aaload, 1) := by decide +kernel
theorem dX3_goOn_6 : decode mX3_goOn.2.1 6 = .ok (.astore_n 2, 1) := by decide +kernel
theorem dX3_goOn_7 : decode mX3_goOn.2.1 7 = .ok (.aload_n 2, 1) := by decide +kernel
theorem dX3_goOn_8 : decode mX3_goOn.2.1 8 = .ok (.ifnull 38, 3) := by decide +kernel
theorem dX3_goOn_11 : decode mX3_goOn.2.1 11 = .ok (.aload_n 2, 1) := by decide +kernel
theorem dX3_goOn_12 : decode mX3_goOn.2.1 12 = .ok (.getfield 31, 3) := by decide +kernel
theorem dX3_goOn_15 : decode mX3_goOn.2.1 15 = .ok (.bipush 15, 2) := by decide +kernel
theorem dX3_goOn_17 : decode mX3_goOn.2.1 17 = .ok (.if_icmp .lt 29, 3) := by decide +kernel
theorem dX3_goOn_20 : decode mX3_goOn.2.1 20 = .ok (.aload_n 0, 1) := by decide +kernel
theorem dX3_goOn_21 : decode mX3_goOn.2.1 21 = .ok (.getfield 11, 3) := by decide +kernel
theorem dX3_goOn_24 : decode mX3_goOn.2.1 24 = .ok (.iload_n 1, 1) := by decide +kernel
theorem dX3_goOn_25 : decode mX3_goOn.2.1 25 = .ok (.iconst 1, 1) := by decide +kernel
theorem dX3_goOn_26 : decode mX3_goOn.2.1 26 = .ok (.iadd, 1) := by decide +kernel
theorem dX3_goOn_27 : decode mX3_goOn.2.1 27 = .ok (.aaload, 1) := by decide +kernel
theorem dX3_goOn_28 : decode mX3_goOn.2.1 28 = .ok (.ifnonnull 18, 3) := by decide +kernel
theorem dX3_goOn_31 : decode mX3_goOn.2.1 31 = .ok (.aload_n 0, 1) := by decide +kernel
theorem dX3_goOn_32 : decode mX3_goOn.2.1 32 = .ok (.getfield 11, 3) := by decide +kernel
theorem dX3_goOn_35 : decode mX3_goOn.2.1 35 = .ok (.iload_n 1, 1) := by decide +kernel
theorem dX3_goOn_36 : decode mX3_goOn.2.1 36 = .ok (.aconst_null, 1) := by decide +kernel
theorem dX3_goOn_37 : decode mX3_goOn.2.1 37 = .ok (.aastore, 1) := by decide +kernel
theorem dX3_goOn_38 : decode mX3_goOn.2.1 38 = .ok (.aload_n 0, 1) := by decide +kernel
theorem dX3_goOn_39 : decode mX3_goOn.2.1 39 = .ok (.aload_n 2, 1) := by decide +kernel
theorem dX3_goOn_40 : decode mX3_goOn.2.1 40 = .ok (.iload_n 1, 1) := by decide +kernel
theorem dX3_goOn_41 : decode mX3_goOn.2.1 41 = .ok (.iconst 1, 1) := by decide +kernel
theorem dX3_goOn_42 : decode mX3_goOn.2.1 42 = .ok (.iadd, 1) := by decide +kernel
theorem dX3_goOn_43 : decode mX3_goOn.2.1 43 = .ok (.invokevirtual 34, 3) := by decide +kernel
theorem dX3_goOn_46 : decode mX3_goOn.2.1 46 = .ok (.return_, 1) := by decide +kernel
theorem dX3_isEmptyUpTo_0 : decode mX3_isEmptyUpTo.2.1 0 = .ok (.iconst 1, 1) := by decide +kernel
theorem dX3_isEmptyUpTo_1 : decode mX3_isEmptyUpTo.2.1 1 = .ok (.istore_n 2, 1) := by decide +kernel
theorem dX3_isEmptyUpTo_2 : decode mX3_isEmptyUpTo.2.1 2 = .ok (.iload_n 2, 1) := by decide +kernel
theorem dX3_isEmptyUpTo_3 : decode mX3_isEmptyUpTo.2.1 3 = .ok (.iload_n 1, 1) := by decide +kernel
theorem dX3_isEmptyUpTo_4 : decode mX3_isEmptyUpTo.2.1 4 = .ok (.if_icmp .gt 20, 3) := by decide +kernel
theorem dX3_isEmptyUpTo_7 : decode mX3_isEmptyUpTo.2.1 7 = .ok (.aload_n 0, 1) := by decide +kernel
theorem dX3_isEmptyUpTo_8 : decode mX3_isEmptyUpTo.2.1 8 = .ok (.getfield 11, 3) := by decide +kernel
theorem dX3_isEmptyUpTo_11 : decode mX3_isEmptyUpTo.2.1 11 = .ok (.iload_n 2, 1) := by decide +kernel
theorem dX3_isEmptyUpTo_12 : decode mX3_isEmptyUpTo.2.1 12 = .ok (.aaload, 1) := by decide +kernel
theorem dX3_isEmptyUpTo_13 : decode mX3_isEmptyUpTo.2.1 13 = .ok (.ifnull 5, 3) := by decide +kernel
theorem dX3_isEmptyUpTo_16 : decode mX3_isEmptyUpTo.2.1 16 = .ok (.iconst 0, 1) := by decide +kernel
theorem dX3_isEmptyUpTo_17 : decode mX3_isEmptyUpTo.2.1 17 = .ok (.ireturn, 1) := by decide +kernel
theorem dX3_isEmptyUpTo_18 : decode mX3_isEmptyUpTo.2.1 18 = .ok (.iinc 2 1, 3) := by decide +kernel
theorem dX3_isEmptyUpTo_21 : decode mX3_isEmptyUpTo.2.1 21 = .ok (.goto (-19), 3) := by decide +kernel
theorem dX3_isEmptyUpTo_24 : decode mX3_isEmptyUpTo.2.1 24 = .ok (.iconst 1, 1) := by decide +kernel
theorem dX3_isEmptyUpTo_25 : decode mX3_isEmptyUpTo.2.1 25 = .ok (.ireturn, 1) := by decide +kernel
theorem dX3_count_0 : decode mX3_count.2.1 0 = .ok (.iconst 0, 1) := by decide +kernel
theorem dX3_count_1 : decode mX3_count.2.1 1 = .ok (.istore_n 1, 1) := by decide +kernel
theorem dX3_count_2 : decode mX3_count.2.1 2 = .ok (.iconst 1, 1) := by decide +kernel
theorem dX3_count_3 : decode mX3_count.2.1 3 = .ok (.istore_n 2, 1) := by decide +kernel
theorem dX3_count_4 : decode mX3_count.2.1 4 = .ok (.iload_n 2, 1) := by decide +kernel
theorem dX3_count_5 : decode mX3_count.2.1 5 = .ok (.bipush 12, 2) := by decide +kernel
theorem dX3_count_7 : decode mX3_count.2.1 7 = .ok (.if_icmp .gt 21, 3) := by decide +kernel
theorem dX3_count_10 : decode mX3_count.2.1 10 = .ok (.aload_n 0, 1) := by decide +kernel
theorem dX3_count_11 : decode mX3_count.2.1 11 = .ok (.getfield 11, 3) := by decide +kernel
theorem dX3_count_14 : decode mX3_count.2.1 14 = .ok (.iload_n 2, 1) := by decide +kernel
theorem dX3_count_15 : decode mX3_count.2.1 15 = .ok (.aaload, 1) := by decide +kernel
theorem dX3_count_16 : decode mX3_count.2.1 16 = .ok (.ifnull 6, 3) := by decide +kernel
theorem dX3_count_19 : decode mX3_count.2.1 19 = .ok (.iinc 1 1, 3) := by decide +kernel
theorem dX3_count_22 : decode mX3_count.2.1 22 = .ok (.iinc 2 1, 3) := by decide +kernel
theorem dX3_count_25 : decode mX3_count.2.1 25 = .ok (.goto (-21), 3) := by decide +kernel
theorem dX3_count_28 : decode mX3_count.2.1 28 = .ok (.iload_n 1, 1) := by decide +kernel
theorem dX3_count_29 : decode mX3_count.2.1 29 = .ok (.ireturn, 1) := by decide +kernel
theorem dX4_init_0 : decode mX4_init.2.1 0 = .ok (.aload_n 0, 1) := by decide +kernel
theorem dX4_init_1 : decode mX4_init.2.1 1 = .ok (.invokespecial 1, 3) := by decide +kernel
theorem dX4_init_4 : decode mX4_init.2.1 4 = .ok (.aload_n 0, 1) := by decide +kernel
theorem dX4_init_5 : decode mX4_init.2.1 5 = .ok (.iconst 5, 1) := by decide +kernel
theorem dX4_init_6 : decode mX4_init.2.1 6 = .ok (.newarray .int, 2) := by decide +kernel
theorem dX4_init_8 : decode mX4_init.2.1 8 = .ok (.putfield 9, 3) := by decide +kernel
theorem dX4_init_11 : decode mX4_init.2.1 11 = .ok (.aload_n 0, 1) := by decide +kernel
theorem dX4_init_12 : decode mX4_init.2.1 12 = .ok (.iconst 5, 1) := by decide +kernel
theorem dX4_init_13 : decode mX4_init.2.1 13 = .ok (.newarray .int, 2) := by decide +kernel
theorem dX4_init_15 : decode mX4_init.2.1 15 = .ok (.putfield 13, 3) := by decide +kernel
theorem dX4_init_18 : decode mX4_init.2.1 18 = .ok (.aload_n 0, 1) := by decide +kernel
theorem dX4_init_19 : decode mX4_init.2.1 19 = .ok (.iconst 0, 1) := by decide +kernel
theorem dX4_init_20 : decode mX4_init.2.1 20 = .ok (.putfield 16, 3) := by decide +kernel
theorem dX4_init_23 : decode mX4_init.2.1 23 = .ok (.aload_n 0, 1) := by decide +kernel
theorem dX4_init_24 : decode mX4_init.2.1 24 = .ok (.iconst 0, 1) := by decide +kernel
theorem dX4_init_25 : decode mX4_init.2.1 25 = .ok (.putfield 20, 3) := by decide +kernel
theorem dX4_init_28 : decode mX4_init.2.1 28 = .ok (.aload_n 0, 1) := by decide +kernel
theorem dX4_init_29 : decode mX4_init.2.1 29 = .ok (.iconst 0, 1) := by decide +kernel
theorem dX4_init_30 : decode mX4_init.2.1 30 = .ok (.putfield 23, 3) := by decide +kernel
theorem dX4_init_33 : decode mX4_init.2.1 33 = .ok (.return_, 1) := by decide +kernel
theorem dX4_report_0 : decode mX4_report.2.1 0 = .ok (.aload_n 0, 1) := by decide +kernel
theorem dX4_report_1 : decode mX4_report.2.1 1 = .ok (.getfield 16, 3) := by decide +kernel
theorem dX4_report_4 : decode mX4_report.2.1 4 = .ok (.iconst 5, 1) := by decide +kernel
theorem dX4_report_5 : decode mX4_report.2.1 5 = .ok (.if_icmp .ge 26, 3) := by decide +kernel
theorem dX4_report_8 : decode mX4_report.2.1 8 = .ok (.aload_n 0, 1) := by decide +kernel
theorem dX4_report_9 : decode mX4_report.2.1 9 = .ok (.getfield 9, 3) := by decide +kernel
theorem dX4_report_12 : decode mX4_report.2.1 12 = .ok (.aload_n 0, 1) := by decide +kernel
theorem dX4_report_13 : decode mX4_report.2.1 13 = .ok (.getfield 16, 3) := by decide +kernel
theorem dX4_report_16 : decode mX4_report.2.1 16 = .ok (.iload_n 1, 1) := by decide +kernel
theorem dX4_report_17 : decode mX4_report.2.1 17 = .ok (.iastore, 1) := by decide +kernel
theorem dX4_report_18 : decode mX4_report.2.1 18 = .ok (.aload_n 0, 1) := by decide +kernel
theorem dX4_report_19 : decode mX4_report.2.1 19 = .ok (.dup, 1) := by decide +kernel
theorem dX4_report_20 : decode mX4_report.2.1 20 = .ok (.getfield 16, 3) := by decide +kernel
theorem dX4_report_23 : decode mX4_report.2.1 23 = .ok (.iconst 1, 1) := by decide +kernel
theorem dX4_report_24 : decode mX4_report.2.1 24 = .ok (.iadd, 1) := by decide +kernel
theorem dX4_report_25 : decode mX4_report.2.1 25 = .ok (.putfield 16, 3) := by decide +kernel
theorem dX4_report_28 : decode mX4_report.2.1 28 = .ok (.goto 25, 3) := by decide +kernel
theorem dX4_report_31 : decode mX4_report.2.1 31 = .ok (.aload_n 0, 1) := by decide +kernel
theorem dX4_report_32 : decode mX4_report.2.1 32 = .ok (.getfield 9, 3) := by decide +kernel
theorem dX4_report_35 : decode mX4_report.2.1 35 = .ok (.aload_n 0, 1) := by decide +kernel
theorem dX4_report_36 : decode mX4_report.2.1 36 = .ok (.getfield 20, 3) := by decide +kernel
theorem dX4_report_39 : decode mX4_report.2.1 39 = .ok (.iload_n 1, 1) := by decide +kernel
theorem dX4_report_40 : decode mX4_report.2.1 40 = .ok (.iastore, 1) := by decide +kernel
theorem dX4_report_41 : decode mX4_report.2.1 41 = .ok (.aload_n 0, 1) := by decide +kernel
theorem dX4_report_42 : decode mX4_report.2.1 42 = .ok (.aload_n 0, 1) := by decide +kernel
theorem dX4_report_43 : decode mX4_report.2.1 43 = .ok (.getfield 20, 3) := by decide +kernel
theorem dX4_report_46 : decode mX4_report.2.1 46 = .ok (.iconst 1, 1) := by decide +kernel
theorem dX4_report_47 : decode mX4_report.2.1 47 = .ok (.iadd, 1) := by decide +kernel
theorem dX4_report_48 : decode mX4_report.2.1 48 = .ok (.iconst 5, 1) := by decide +kernel
theorem dX4_report_49 : decode mX4_report.2.1 49 = .ok (.irem, 1) := by decide +kernel
theorem dX4_report_50 : decode mX4_report.2.1 50 = .ok (.putfield 20, 3) := by decide +kernel
theorem dX4_report_53 : decode mX4_report.2.1 53 = .ok (.iconst 0, 1) := by decide +kernel
theorem dX4_report_54 : decode mX4_report.2.1 54 = .ok (.istore_n 2, 1) := by decide +kernel
theorem dX4_report_55 : decode mX4_report.2.1 55 = .ok (.iload_n 2, 1) := by decide +kernel
theorem dX4_report_56 : decode mX4_report.2.1 56 = .ok (.aload_n 0, 1) := by decide +kernel
theorem dX4_report_57 : decode mX4_report.2.1 57 = .ok (.getfield 16, 3) := by decide +kernel
theorem dX4_report_60 : decode mX4_report.2.1 60 = .ok (.if_icmp .ge 20, 3) := by decide +kernel
theorem dX4_report_63 : decode mX4_report.2.1 63 = .ok (.aload_n 0, 1) := by decide +kernel
theorem dX4_report_64 : decode mX4_report.2.1 64 = .ok (.aload_n 0, 1) := by decide +kernel
theorem dX4_report_65 : decode mX4_report.2.1 65 = .ok (.getfield 9, 3) := by decide +kernel
theorem dX4_report_68 : decode mX4_report.2.1 68 = .ok (.iload_n 2, 1) := by decide +kernel
theorem dX4_report_69 : decode mX4_report.2.1 69 = .ok (.iaload, 1) := by decide +kernel
theorem dX4_report_70 : decode mX4_report.2.1 70 = .ok (.iload_n 2, 1) := by decide +kernel
theorem dX4_report_71 : decode mX4_report.2.1 71 = .ok (.invokevirtual 26, 3) := by decide +kernel
theorem dX4_report_74 : decode mX4_report.2.1 74 = .ok (.iinc 2 1, 3) := by decide +kernel
theorem dX4_report_77 : decode mX4_report.2.1 77 = .ok (.goto (-22), 3) := by decide +kernel
theorem dX4_report_80 : decode mX4_report.2.1 80 = .ok (.aload_n 0, 1) := by decide +kernel
theorem dX4_report_81 : decode mX4_report.2.1 81 = .ok (.aload_n 0, 1) := by decide +kernel
theorem dX4_report_82 : decode mX4_report.2.1 82 = .ok (.getfield 13, 3) := by decide +kernel
theorem dX4_report_85 : decode mX4_report.2.1 85 = .ok (.aload_n 0, 1) := by decide +kernel
theorem dX4_report_86 : decode mX4_report.2.1 86 = .ok (.getfield 16, 3) := by decide +kernel
theorem dX4_report_89 : decode mX4_report.2.1 89 = .ok (.iconst 2, 1) := by decide +kernel
theorem dX4_report_90 : decode mX4_report.2.1 90 = .ok (.idiv, 1) := by decide +kernel
theorem dX4_report_91 : decode mX4_report.2.1 91 = .ok (.iaload, 1) := by decide +kernel
theorem dX4_report_92 : decode mX4_report.2.1 92 = .ok (.putfield 23, 3) := by decide +kernel
theorem dX4_report_95 : decode mX4_report.2.1 95 = .ok (.return_, 1) := by decide +kernel
theorem dX4_sortIn_0 : decode mX4_sortIn.2.1 0 = .ok (.iload_n 2, 1) := by decide +kernel
theorem dX4_sortIn_1 : decode mX4_sortIn.2.1 1 = .ok (.istore_n 3, 1) := by decide +kernel
theorem dX4_sortIn_2 : decode mX4_sortIn.2.1 2 = .ok (.iload_n 3, 1) := by decide +kernel
theorem dX4_sortIn_3 : decode mX4_sortIn.2.1 3 = .ok (.ifCond .le 35, 3) := by decide +kernel
theorem dX4_sortIn_6 : decode mX4_sortIn.2.1 6 = .ok (.aload_n 0, 1) := by decide +kernel
theorem dX4_sortIn_7 : decode mX4_sortIn.2.1 7 = .ok (.getfield 13, 3) := by decide +kernel
theorem dX4_sortIn_10 : decode mX4_sortIn.2.1 10 = .ok (.iload_n 3, 1) := by decide +kernel
theorem dX4_sortIn_11 : decode mX4_sortIn.2.1 11 = .ok (.iconst 1, 1) := by decide +kernel
theorem dX4_sortIn_12 : decode mX4_sortIn.2.1 12 = .ok (.isub, 1) := by decide +kernel
theorem dX4_sortIn_13 : decode mX4_sortIn.2.1 13 = .ok (.iaload, 1) := by decide +kernel
theorem dX4_sortIn_14 : decode mX4_sortIn.2.1 14 = .ok (.iload_n 1, 1) := by decide +kernel
theorem dX4_sortIn_15 : decode mX4_sortIn.2.1 15 = .ok (.if_icmp .le 23, 3) := by decide +kernel
theorem dX4_sortIn_18 : decode mX4_sortIn.2.1 18 = .ok (.aload_n 0, 1) := by decide +kernel
theorem dX4_sortIn_19 : decode mX4_sortIn.2.1 19 = .ok (.getfield 13, 3) := by decide +kernel
theorem dX4_sortIn_22 : decode mX4_sortIn.2.1 22 = .ok (.iload_n 3, 1) := by decide +kernel
theorem dX4_sortIn_23 : decode mX4_sortIn.2.1 23 = .ok (.aload_n 0, 1) := by decide +kernel
theorem dX4_sortIn_24 : decode mX4_sortIn.2.1 24 = .ok (.getfield 13, 3) := by decide +kernel
theorem dX4_sortIn_27 : decode mX4_sortIn.2.1 27 = .ok (.iload_n 3, 1) := by decide +kernel
theorem dX4_sortIn_28 : decode mX4_sortIn.2.1 28 = .ok (.iconst 1, 1) := by decide +kernel
theorem dX4_sortIn_29 : decode mX4_sortIn.2.1 29 = .ok (.isub, 1) := by decide +kernel
theorem dX4_sortIn_30 : decode mX4_sortIn.2.1 30 = .ok (.iaload, 1) := by decide +kernel
theorem dX4_sortIn_31 : decode mX4_sortIn.2.1 31 = .ok (.iastore, 1) := by decide +kernel
theorem dX4_sortIn_32 : decode mX4_sortIn.2.1 32 = .ok (.iinc 3 (-1), 3) := by decide +kernel
theorem dX4_sortIn_35 : decode mX4_sortIn.2.1 35 = .ok (.goto (-33), 3) := by decide +kernel
theorem dX4_sortIn_38 : decode mX4_sortIn.2.1 38 = .ok (.aload_n 0, 1) := by decide +kernel
theorem dX4_sortIn_39 : decode mX4_sortIn.2.1 39 = .ok (.getfield 13, 3) := by decide +kernel
theorem dX4_sortIn_42 : decode mX4_sortIn.2.1 42 = .ok (.iload_n 3, 1) := by decide +kernel
theorem dX4_sortIn_43 : decode mX4_sortIn.2.1 43 = .ok (.iload_n 1, 1) := by decide +kernel
theorem dX4_sortIn_44 : decode mX4_sortIn.2.1 44 = .ok (.iastore, 1) := by decide +kernel
theorem dX4_sortIn_45 : decode mX4_sortIn.2.1 45 = .ok (.return_, 1) := by decide +kernel
theorem dJ_floorMod_0 : decode mJ_floorMod.2.1 0 = .ok (.iload_n 0, 1) := by decide +kernel
theorem dJ_floorMod_1 : decode mJ_floorMod.2.1 1 = .ok (.iload_n 1, 1) := by decide +kernel
theorem dJ_floorMod_2 : decode mJ_floorMod.2.1 2 = .ok (.irem, 1) := by decide +kernel
theorem dJ_floorMod_3 : decode mJ_floorMod.2.1 3 = .ok (.istore_n 2, 1) := by decide +kernel
theorem dJ_floorMod_4 : decode mJ_floorMod.2.1 4 = .ok (.iload_n 0, 1) := by decide +kernel
theorem dJ_floorMod_5 : decode mJ_floorMod.2.1 5 = .ok (.iload_n 1, 1) := by decide +kernel
theorem dJ_floorMod_6 : decode mJ_floorMod.2.1 6 = .ok (.ixor, 1) := by decide +kernel
theorem dJ_floorMod_7 : decode mJ_floorMod.2.1 7 = .ok (.ifCond .ge 11, 3) := by decide +kernel
theorem dJ_floorMod_10 : decode mJ_floorMod.2.1 10 = .ok (.iload_n 2, 1) := by decide +kernel
theorem dJ_floorMod_11 : decode mJ_floorMod.2.1 11 = .ok (.ifCond .eq 7, 3) := by decide +kernel
theorem dJ_floorMod_14 : decode mJ_floorMod.2.1 14 = .ok (.iload_n 2, 1) := by decide +kernel
theorem dJ_floorMod_15 : decode mJ_floorMod.2.1 15 = .ok (.iload_n 1, 1) := by decide +kernel
theorem dJ_floorMod_16 : decode mJ_floorMod.2.1 16 = .ok (.iadd, 1) := by decide +kernel
theorem dJ_floorMod_17 : decode mJ_floorMod.2.1 17 = .ok (.ireturn, 1) := by decide +kernel
theorem dJ_floorMod_18 : decode mJ_floorMod.2.1 18 = .ok (.iload_n 2, 1) := by decide +kernel
theorem dJ_floorMod_19 : decode mJ_floorMod.2.1 19 = .ok (.ireturn, 1) := by decide +kernel
