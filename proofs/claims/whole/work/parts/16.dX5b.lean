/-! decode rows -/
theorem dX5_checkStation_0 : decode mX5_checkStation.2.1 0 = .ok (.iload_n 0, 1) := by decide +kernel
theorem dX5_checkStation_1 : decode mX5_checkStation.2.1 1 = .ok (.ifCond .lt 8, 3) := by decide +kernel
theorem dX5_checkStation_4 : decode mX5_checkStation.2.1 4 = .ok (.iload_n 0, 1) := by decide +kernel
theorem dX5_checkStation_5 : decode mX5_checkStation.2.1 5 = .ok (.iconst 2, 1) := by decide +kernel
theorem dX5_checkStation_6 : decode mX5_checkStation.2.1 6 = .ok (.if_icmp .lt 13, 3) := by decide +kernel
theorem dX5_checkStation_9 : decode mX5_checkStation.2.1 9 = .ok (.new 58, 3) := by decide +kernel
theorem dX5_checkStation_12 : decode mX5_checkStation.2.1 12 = .ok (.dup, 1) := by decide +kernel
theorem dX5_checkStation_13 : decode mX5_checkStation.2.1 13 = .ok (.ldc 187, 2) := by decide +kernel
theorem dX5_checkStation_15 : decode mX5_checkStation.2.1 15 = .ok (.invokespecial 62, 3) := by decide +kernel
theorem dX5_checkStation_18 : decode mX5_checkStation.2.1 18 = .ok (.athrow, 1) := by decide +kernel
theorem dX5_checkStation_19 : decode mX5_checkStation.2.1 19 = .ok (.return_, 1) := by decide +kernel
theorem dX5_checkCabin_0 : decode mX5_checkCabin.2.1 0 = .ok (.iload_n 0, 1) := by decide +kernel
theorem dX5_checkCabin_1 : decode mX5_checkCabin.2.1 1 = .ok (.ifCond .lt 9, 3) := by decide +kernel
theorem dX5_checkCabin_4 : decode mX5_checkCabin.2.1 4 = .ok (.iload_n 0, 1) := by decide +kernel
theorem dX5_checkCabin_5 : decode mX5_checkCabin.2.1 5 = .ok (.bipush 60, 2) := by decide +kernel
theorem dX5_checkCabin_7 : decode mX5_checkCabin.2.1 7 = .ok (.if_icmp .lt 13, 3) := by decide +kernel
theorem dX5_checkCabin_10 : decode mX5_checkCabin.2.1 10 = .ok (.new 58, 3) := by decide +kernel
theorem dX5_checkCabin_13 : decode mX5_checkCabin.2.1 13 = .ok (.dup, 1) := by decide +kernel
theorem dX5_checkCabin_14 : decode mX5_checkCabin.2.1 14 = .ok (.ldc 189, 2) := by decide +kernel
theorem dX5_checkCabin_16 : decode mX5_checkCabin.2.1 16 = .ok (.invokespecial 62, 3) := by decide +kernel
theorem dX5_checkCabin_19 : decode mX5_checkCabin.2.1 19 = .ok (.athrow, 1) := by decide +kernel
theorem dX5_checkCabin_20 : decode mX5_checkCabin.2.1 20 = .ok (.return_, 1) := by decide +kernel
theorem dX5_lock_0 : decode mX5_lock.2.1 0 = .ok (.aload_n 0, 1) := by decide +kernel
theorem dX5_lock_1 : decode mX5_lock.2.1 1 = .ok (.dup, 1) := by decide +kernel
theorem dX5_lock_2 : decode mX5_lock.2.1 2 = .ok (.getfield 36, 3) := by decide +kernel
theorem dX5_lock_5 : decode mX5_lock.2.1 5 = .ok (.iconst 1, 1) := by decide +kernel
theorem dX5_lock_6 : decode mX5_lock.2.1 6 = .ok (.iload_n 1, 1) := by decide +kernel
theorem dX5_lock_7 : decode mX5_lock.2.1 7 = .ok (.ishl, 1) := by decide +kernel
theorem dX5_lock_8 : decode mX5_lock.2.1 8 = .ok (.ior, 1) := by decide +kernel
theorem dX5_lock_9 : decode mX5_lock.2.1 9 = .ok (.putfield 36, 3) := by decide +kernel
theorem dX5_lock_12 : decode mX5_lock.2.1 12 = .ok (.return_, 1) := by decide +kernel
theorem dX5_hasCauseStill_0 : decode mX5_hasCauseStill.2.1 0 = .ok (.iload_n 1, 1) := by decide +kernel
theorem dX5_hasCauseStill_1 : decode mX5_hasCauseStill.2.1 1 = .ok (.tableswitch 81 1 3 #[27, 43, 62], 27) := by decide +kernel
theorem dX5_hasCauseStill_28 : decode mX5_hasCauseStill.2.1 28 = .ok (.aload_n 0, 1) := by decide +kernel
theorem dX5_hasCauseStill_29 : decode mX5_hasCauseStill.2.1 29 = .ok (.getfield 25, 3) := by decide +kernel
theorem dX5_hasCauseStill_32 : decode mX5_hasCauseStill.2.1 32 = .ok (.invokevirtual 114, 3) := by decide +kernel
theorem dX5_hasCauseStill_35 : decode mX5_hasCauseStill.2.1 35 = .ok (.ifCond .ne 7, 3) := by decide +kernel
theorem dX5_hasCauseStill_38 : decode mX5_hasCauseStill.2.1 38 = .ok (.iconst 1, 1) := by decide +kernel
theorem dX5_hasCauseStill_39 : decode mX5_hasCauseStill.2.1 39 = .ok (.goto 4, 3) := by decide +kernel
theorem dX5_hasCauseStill_42 : decode mX5_hasCauseStill.2.1 42 = .ok (.iconst 0, 1) := by decide +kernel
theorem dX5_hasCauseStill_43 : decode mX5_hasCauseStill.2.1 43 = .ok (.ireturn, 1) := by decide +kernel
theorem dX5_hasCauseStill_44 : decode mX5_hasCauseStill.2.1 44 = .ok (.aload_n 0, 1) := by decide +kernel
theorem dX5_hasCauseStill_45 : decode mX5_hasCauseStill.2.1 45 = .ok (.getfield 32, 3) := by decide +kernel
theorem dX5_hasCauseStill_48 : decode mX5_hasCauseStill.2.1 48 = .ok (.getfield 177, 3) := by decide +kernel
theorem dX5_hasCauseStill_51 : decode mX5_hasCauseStill.2.1 51 = .ok (.sipush 250, 3) := by decide +kernel
theorem dX5_hasCauseStill_54 : decode mX5_hasCauseStill.2.1 54 = .ok (.if_icmp .le 7, 3) := by decide +kernel
theorem dX5_hasCauseStill_57 : decode mX5_hasCauseStill.2.1 57 = .ok (.iconst 1, 1) := by decide +kernel
theorem dX5_hasCauseStill_58 : decode mX5_hasCauseStill.2.1 58 = .ok (.goto 4, 3) := by decide +kernel
theorem dX5_hasCauseStill_61 : decode mX5_hasCauseStill.2.1 61 = .ok (.iconst 0, 1) := by decide +kernel
theorem dX5_hasCauseStill_62 : decode mX5_hasCauseStill.2.1 62 = .ok (.ireturn, 1) := by decide +kernel
theorem dX5_hasCauseStill_63 : decode mX5_hasCauseStill.2.1 63 = .ok (.aload_n 0, 1) := by decide +kernel
theorem dX5_hasCauseStill_64 : decode mX5_hasCauseStill.2.1 64 = .ok (.getfield 10, 3) := by decide +kernel
theorem dX5_hasCauseStill_67 : decode mX5_hasCauseStill.2.1 67 = .ok (.invokevirtual 191, 3) := by decide +kernel
theorem dX5_hasCauseStill_70 : decode mX5_hasCauseStill.2.1 70 = .ok (.sipush 5700, 3) := by decide +kernel
theorem dX5_hasCauseStill_73 : decode mX5_hasCauseStill.2.1 73 = .ok (.if_icmp .lt 7, 3) := by decide +kernel
theorem dX5_hasCauseStill_76 : decode mX5_hasCauseStill.2.1 76 = .ok (.iconst 1, 1) := by decide +kernel
theorem dX5_hasCauseStill_77 : decode mX5_hasCauseStill.2.1 77 = .ok (.goto 4, 3) := by decide +kernel
theorem dX5_hasCauseStill_80 : decode mX5_hasCauseStill.2.1 80 = .ok (.iconst 0, 1) := by decide +kernel
theorem dX5_hasCauseStill_81 : decode mX5_hasCauseStill.2.1 81 = .ok (.ireturn, 1) := by decide +kernel
theorem dX5_hasCauseStill_82 : decode mX5_hasCauseStill.2.1 82 = .ok (.iconst 0, 1) := by decide +kernel
theorem dX5_hasCauseStill_83 : decode mX5_hasCauseStill.2.1 83 = .ok (.ireturn, 1) := by decide +kernel
theorem dX5_spotOf_0 : decode mX5_spotOf.2.1 0 = .ok (.aload_n 1, 1) := by decide +kernel
theorem dX5_spotOf_1 : decode mX5_spotOf.2.1 1 = .ok (.getfield 111, 3) := by decide +kernel
theorem dX5_spotOf_4 : decode mX5_spotOf.2.1 4 = .ok (.tableswitch 47 1 3 #[28, 37, 42], 28) := by decide +kernel
theorem dX5_spotOf_32 : decode mX5_spotOf.2.1 32 = .ok (.aload_n 0, 1) := by decide +kernel
theorem dX5_spotOf_33 : decode mX5_spotOf.2.1 33 = .ok (.getfield 25, 3) := by decide +kernel
theorem dX5_spotOf_36 : decode mX5_spotOf.2.1 36 = .ok (.aload_n 1, 1) := by decide +kernel
theorem dX5_spotOf_37 : decode mX5_spotOf.2.1 37 = .ok (.invokevirtual 194, 3) := by decide +kernel
theorem dX5_spotOf_40 : decode mX5_spotOf.2.1 40 = .ok (.ireturn, 1) := by decide +kernel
theorem dX5_spotOf_41 : decode mX5_spotOf.2.1 41 = .ok (.aload_n 1, 1) := by decide +kernel
theorem dX5_spotOf_42 : decode mX5_spotOf.2.1 42 = .ok (.getfield 138, 3) := by decide +kernel
theorem dX5_spotOf_45 : decode mX5_spotOf.2.1 45 = .ok (.ireturn, 1) := by decide +kernel
theorem dX5_spotOf_46 : decode mX5_spotOf.2.1 46 = .ok (.aload_n 1, 1) := by decide +kernel
theorem dX5_spotOf_47 : decode mX5_spotOf.2.1 47 = .ok (.getfield 197, 3) := by decide +kernel
theorem dX5_spotOf_50 : decode mX5_spotOf.2.1 50 = .ok (.ireturn, 1) := by decide +kernel
theorem dX5_spotOf_51 : decode mX5_spotOf.2.1 51 = .ok (.iconst (-1), 1) := by decide +kernel
theorem dX5_spotOf_52 : decode mX5_spotOf.2.1 52 = .ok (.ireturn, 1) := by decide +kernel
theorem dX5_letGo_0 : decode mX5_letGo.2.1 0 = .ok (.iconst 0, 1) := by decide +kernel
theorem dX5_letGo_1 : decode mX5_letGo.2.1 1 = .ok (.istore_n 1, 1) := by decide +kernel
theorem dX5_letGo_2 : decode mX5_letGo.2.1 2 = .ok (.iload_n 1, 1) := by decide +kernel
theorem dX5_letGo_3 : decode mX5_letGo.2.1 3 = .ok (.bipush 60, 2) := by decide +kernel
theorem dX5_letGo_5 : decode mX5_letGo.2.1 5 = .ok (.if_icmp .ge 64, 3) := by decide +kernel
theorem dX5_letGo_8 : decode mX5_letGo.2.1 8 = .ok (.aload_n 0, 1) := by decide +kernel
theorem dX5_letGo_9 : decode mX5_letGo.2.1 9 = .ok (.getfield 10, 3) := by decide +kernel
theorem dX5_letGo_12 : decode mX5_letGo.2.1 12 = .ok (.getfield 108, 3) := by decide +kernel
theorem dX5_letGo_15 : decode mX5_letGo.2.1 15 = .ok (.iload_n 1, 1) := by decide +kernel
theorem dX5_letGo_16 : decode mX5_letGo.2.1 16 = .ok (.aaload, 1) := by decide +kernel
theorem dX5_letGo_17 : decode mX5_letGo.2.1 17 = .ok (.astore_n 2, 1) := by decide +kernel
theorem dX5_letGo_18 : decode mX5_letGo.2.1 18 = .ok (.aload_n 2, 1) := by decide +kernel
theorem dX5_letGo_19 : decode mX5_letGo.2.1 19 = .ok (.getfield 111, 3) := by decide +kernel
theorem dX5_letGo_22 : decode mX5_letGo.2.1 22 = .ok (.iconst 3, 1) := by decide +kernel
theorem dX5_letGo_23 : decode mX5_letGo.2.1 23 = .ok (.if_icmp .ne 40, 3) := by decide +kernel
theorem dX5_letGo_26 : decode mX5_letGo.2.1 26 = .ok (.aload_n 2, 1) := by decide +kernel
theorem dX5_letGo_27 : decode mX5_letGo.2.1 27 = .ok (.getfield 197, 3) := by decide +kernel
theorem dX5_letGo_30 : decode mX5_letGo.2.1 30 = .ok (.sipush 5700, 3) := by decide +kernel
theorem dX5_letGo_33 : decode mX5_letGo.2.1 33 = .ok (.if_icmp .lt 30, 3) := by decide +kernel
theorem dX5_letGo_36 : decode mX5_letGo.2.1 36 = .ok (.aload_n 0, 1) := by decide +kernel
theorem dX5_letGo_37 : decode mX5_letGo.2.1 37 = .ok (.getfield 18, 3) := by decide +kernel
theorem dX5_letGo_40 : decode mX5_letGo.2.1 40 = .ok (.iconst 1, 1) := by decide +kernel
theorem dX5_letGo_41 : decode mX5_letGo.2.1 41 = .ok (.aload_n 2, 1) := by decide +kernel
theorem dX5_letGo_42 : decode mX5_letGo.2.1 42 = .ok (.getfield 135, 3) := by decide +kernel
theorem dX5_letGo_45 : decode mX5_letGo.2.1 45 = .ok (.isub, 1) := by decide +kernel
theorem dX5_letGo_46 : decode mX5_letGo.2.1 46 = .ok (.aaload, 1) := by decide +kernel
theorem dX5_letGo_47 : decode mX5_letGo.2.1 47 = .ok (.astore_n 3, 1) := by decide +kernel
theorem dX5_letGo_48 : decode mX5_letGo.2.1 48 = .ok (.aload_n 3, 1) := by decide +kernel
theorem dX5_letGo_49 : decode mX5_letGo.2.1 49 = .ok (.getfield 82, 3) := by decide +kernel
theorem dX5_letGo_52 : decode mX5_letGo.2.1 52 = .ok (.iconst 1, 1) := by decide +kernel
theorem dX5_letGo_53 : decode mX5_letGo.2.1 53 = .ok (.aaload, 1) := by decide +kernel
theorem dX5_letGo_54 : decode mX5_letGo.2.1 54 = .ok (.ifnonnull 9, 3) := by decide +kernel
theorem dX5_letGo_57 : decode mX5_letGo.2.1 57 = .ok (.aload_n 3, 1) := by decide +kernel
theorem dX5_letGo_58 : decode mX5_letGo.2.1 58 = .ok (.aload_n 2, 1) := by decide +kernel
theorem dX5_letGo_59 : decode mX5_letGo.2.1 59 = .ok (.iconst 1, 1) := by decide +kernel
theorem dX5_letGo_60 : decode mX5_letGo.2.1 60 = .ok (.invokevirtual 131, 3) := by decide +kernel
theorem dX5_letGo_63 : decode mX5_letGo.2.1 63 = .ok (.iinc 1 1, 3) := by decide +kernel
theorem dX5_letGo_66 : decode mX5_letGo.2.1 66 = .ok (.goto (-64), 3) := by decide +kernel
theorem dX5_letGo_69 : decode mX5_letGo.2.1 69 = .ok (.return_, 1) := by decide +kernel
theorem dX5_moveRope_0 : decode mX5_moveRope.2.1 0 = .ok (.iconst 0, 1) := by decide +kernel
theorem dX5_moveRope_1 : decode mX5_moveRope.2.1 1 = .ok (.istore_n 2, 1) := by decide +kernel
theorem dX5_moveRope_2 : decode mX5_moveRope.2.1 2 = .ok (.iload_n 2, 1) := by decide +kernel
theorem dX5_moveRope_3 : decode mX5_moveRope.2.1 3 = .ok (.iload_n 1, 1) := by decide +kernel
theorem dX5_moveRope_4 : decode mX5_moveRope.2.1 4 = .ok (.if_icmp .ge 56, 3) := by decide +kernel
theorem dX5_moveRope_7 : decode mX5_moveRope.2.1 7 = .ok (.sipush 5700, 3) := by decide +kernel
theorem dX5_moveRope_10 : decode mX5_moveRope.2.1 10 = .ok (.aload_n 0, 1) := by decide +kernel
theorem dX5_moveRope_11 : decode mX5_moveRope.2.1 11 = .ok (.getfield 10, 3) := by decide +kernel
theorem dX5_moveRope_14 : decode mX5_moveRope.2.1 14 = .ok (.invokevirtual 191, 3) := by decide +kernel
theorem dX5_moveRope_17 : decode mX5_moveRope.2.1 17 = .ok (.isub, 1) := by decide +kernel
theorem dX5_moveRope_18 : decode mX5_moveRope.2.1 18 = .ok (.istore_n 3, 1) := by decide +kernel
theorem dX5_moveRope_19 : decode mX5_moveRope.2.1 19 = .ok (.iload_n 3, 1) := by decide +kernel
theorem dX5_moveRope_20 : decode mX5_moveRope.2.1 20 = .ok (.ifCond .gt 10, 3) := by decide +kernel
theorem dX5_moveRope_23 : decode mX5_moveRope.2.1 23 = .ok (.aload_n 0, 1) := by decide +kernel
theorem dX5_moveRope_24 : decode mX5_moveRope.2.1 24 = .ok (.iconst 3, 1) := by decide +kernel
theorem dX5_moveRope_25 : decode mX5_moveRope.2.1 25 = .ok (.invokevirtual 200, 3) := by decide +kernel
theorem dX5_moveRope_28 : decode mX5_moveRope.2.1 28 = .ok (.iload_n 2, 1) := by decide +kernel
theorem dX5_moveRope_29 : decode mX5_moveRope.2.1 29 = .ok (.ireturn, 1) := by decide +kernel
theorem dX5_moveRope_30 : decode mX5_moveRope.2.1 30 = .ok (.iload_n 3, 1) := by decide +kernel
theorem dX5_moveRope_31 : decode mX5_moveRope.2.1 31 = .ok (.iload_n 1, 1) := by decide +kernel
theorem dX5_moveRope_32 : decode mX5_moveRope.2.1 32 = .ok (.iload_n 2, 1) := by decide +kernel
theorem dX5_moveRope_33 : decode mX5_moveRope.2.1 33 = .ok (.isub, 1) := by decide +kernel
theorem dX5_moveRope_34 : decode mX5_moveRope.2.1 34 = .ok (.invokestatic 203, 3) := by decide +kernel
theorem dX5_moveRope_37 : decode mX5_moveRope.2.1 37 = .ok (.istore 4, 2) := by decide +kernel
theorem dX5_moveRope_39 : decode mX5_moveRope.2.1 39 = .ok (.aload_n 0, 1) := by decide +kernel
theorem dX5_moveRope_40 : decode mX5_moveRope.2.1 40 = .ok (.getfield 10, 3) := by decide +kernel
theorem dX5_moveRope_43 : decode mX5_moveRope.2.1 43 = .ok (.iload 4, 2) := by decide +kernel
theorem dX5_moveRope_45 : decode mX5_moveRope.2.1 45 = .ok (.invokevirtual 209, 3) := by decide +kernel
theorem dX5_moveRope_48 : decode mX5_moveRope.2.1 48 = .ok (.aload_n 0, 1) := by decide +kernel
theorem dX5_moveRope_49 : decode mX5_moveRope.2.1 49 = .ok (.invokevirtual 65, 3) := by decide +kernel
theorem dX5_moveRope_52 : decode mX5_moveRope.2.1 52 = .ok (.iload_n 2, 1) := by decide +kernel
theorem dX5_moveRope_53 : decode mX5_moveRope.2.1 53 = .ok (.iload 4, 2) := by decide +kernel
theorem dX5_moveRope_55 : decode mX5_moveRope.2.1 55 = .ok (.iadd, 1) := by decide +kernel
theorem dX5_moveRope_56 : decode mX5_moveRope.2.1 56 = .ok (.istore_n 2, 1) := by decide +kernel
theorem dX5_moveRope_57 : decode mX5_moveRope.2.1 57 = .ok (.goto (-55), 3) := by decide +kernel
theorem dX5_moveRope_60 : decode mX5_moveRope.2.1 60 = .ok (.iload_n 2, 1) := by decide +kernel
theorem dX5_moveRope_61 : decode mX5_moveRope.2.1 61 = .ok (.ireturn, 1) := by decide +kernel
theorem dX5_passOneTick_0 : decode mX5_passOneTick.2.1 0 = .ok (.aload_n 0, 1) := by decide +kernel
theorem dX5_passOneTick_1 : decode mX5_passOneTick.2.1 1 = .ok (.getfield 32, 3) := by decide +kernel
theorem dX5_passOneTick_4 : decode mX5_passOneTick.2.1 4 = .ok (.getfield 177, 3) := by decide +kernel
theorem dX5_passOneTick_7 : decode mX5_passOneTick.2.1 7 = .ok (.sipush 250, 3) := by decide +kernel
theorem dX5_passOneTick_10 : decode mX5_passOneTick.2.1 10 = .ok (.if_icmp .le 8, 3) := by decide +kernel
theorem dX5_passOneTick_13 : decode mX5_passOneTick.2.1 13 = .ok (.aload_n 0, 1) := by decide +kernel
theorem dX5_passOneTick_14 : decode mX5_passOneTick.2.1 14 = .ok (.iconst 2, 1) := by decide +kernel
theorem dX5_passOneTick_15 : decode mX5_passOneTick.2.1 15 = .ok (.invokevirtual 200, 3) := by decide +kernel
theorem dX5_passOneTick_18 : decode mX5_passOneTick.2.1 18 = .ok (.iconst 0, 1) := by decide +kernel
theorem dX5_passOneTick_19 : decode mX5_passOneTick.2.1 19 = .ok (.istore_n 1, 1) := by decide +kernel
theorem dX5_passOneTick_20 : decode mX5_passOneTick.2.1 20 = .ok (.iload_n 1, 1) := by decide +kernel
theorem dX5_passOneTick_21 : decode mX5_passOneTick.2.1 21 = .ok (.iconst 2, 1) := by decide +kernel
theorem dX5_passOneTick_22 : decode mX5_passOneTick.2.1 22 = .ok (.if_icmp .ge 19, 3) := by decide +kernel
theorem dX5_passOneTick_25 : decode mX5_passOneTick.2.1 25 = .ok (.aload_n 0, 1) := by decide +kernel
theorem dX5_passOneTick_26 : decode mX5_passOneTick.2.1 26 = .ok (.aload_n 0, 1) := by decide +kernel
theorem dX5_passOneTick_27 : decode mX5_passOneTick.2.1 27 = .ok (.getfield 18, 3) := by decide +kernel
theorem dX5_passOneTick_30 : decode mX5_passOneTick.2.1 30 = .ok (.iload_n 1, 1) := by decide +kernel
theorem dX5_passOneTick_31 : decode mX5_passOneTick.2.1 31 = .ok (.aaload, 1) := by decide +kernel
theorem dX5_passOneTick_32 : decode mX5_passOneTick.2.1 32 = .ok (.invokevirtual 212, 3) := by decide +kernel
theorem dX5_passOneTick_35 : decode mX5_passOneTick.2.1 35 = .ok (.iinc 1 1, 3) := by decide +kernel
theorem dX5_passOneTick_38 : decode mX5_passOneTick.2.1 38 = .ok (.goto (-18), 3) := by decide +kernel
theorem dX5_passOneTick_41 : decode mX5_passOneTick.2.1 41 = .ok (.aload_n 0, 1) := by decide +kernel
theorem dX5_passOneTick_42 : decode mX5_passOneTick.2.1 42 = .ok (.invokevirtual 216, 3) := by decide +kernel
theorem dX5_passOneTick_45 : decode mX5_passOneTick.2.1 45 = .ok (.istore_n 1, 1) := by decide +kernel
theorem dX5_passOneTick_46 : decode mX5_passOneTick.2.1 46 = .ok (.aload_n 0, 1) := by decide +kernel
theorem dX5_passOneTick_47 : decode mX5_passOneTick.2.1 47 = .ok (.getfield 46, 3) := by decide +kernel
theorem dX5_passOneTick_50 : decode mX5_passOneTick.2.1 50 = .ok (.iload_n 1, 1) := by decide +kernel
theorem dX5_passOneTick_51 : decode mX5_passOneTick.2.1 51 = .ok (.if_icmp .ge 16, 3) := by decide +kernel
theorem dX5_passOneTick_54 : decode mX5_passOneTick.2.1 54 = .ok (.aload_n 0, 1) := by decide +kernel
theorem dX5_passOneTick_55 : decode mX5_passOneTick.2.1 55 = .ok (.dup, 1) := by decide +kernel
theorem dX5_passOneTick_56 : decode mX5_passOneTick.2.1 56 = .ok (.getfield 46, 3) := by decide +kernel
theorem dX5_passOneTick_59 : decode mX5_passOneTick.2.1 59 = .ok (.iconst 1, 1) := by decide +kernel
theorem dX5_passOneTick_60 : decode mX5_passOneTick.2.1 60 = .ok (.iadd, 1) := by decide +kernel
theorem dX5_passOneTick_61 : decode mX5_passOneTick.2.1 61 = .ok (.putfield 46, 3) := by decide +kernel
theorem dX5_passOneTick_64 : decode mX5_passOneTick.2.1 64 = .ok (.goto 21, 3) := by decide +kernel
theorem dX5_passOneTick_67 : decode mX5_passOneTick.2.1 67 = .ok (.aload_n 0, 1) := by decide +kernel
theorem dX5_passOneTick_68 : decode mX5_passOneTick.2.1 68 = .ok (.getfield 46, 3) := by decide +kernel
theorem dX5_passOneTick_71 : decode mX5_passOneTick.2.1 71 = .ok (.iload_n 1, 1) := by decide +kernel
theorem dX5_passOneTick_72 : decode mX5_passOneTick.2.1 72 = .ok (.if_icmp .le 13, 3) := by decide +kernel
theorem dX5_passOneTick_75 : decode mX5_passOneTick.2.1 75 = .ok (.aload_n 0, 1) := by decide +kernel
theorem dX5_passOneTick_76 : decode mX5_passOneTick.2.1 76 = .ok (.dup, 1) := by decide +kernel
theorem dX5_passOneTick_77 : decode mX5_passOneTick.2.1 77 = .ok (.getfield 46, 3) := by decide +kernel
theorem dX5_passOneTick_80 : decode mX5_passOneTick.2.1 80 = .ok (.iconst 1, 1) := by decide +kernel
theorem dX5_passOneTick_81 : decode mX5_passOneTick.2.1 81 = .ok (.isub, 1) := by decide +kernel
theorem dX5_passOneTick_82 : decode mX5_passOneTick.2.1 82 = .ok (.putfield 46, 3) := by decide +kernel
theorem dX5_passOneTick_85 : decode mX5_passOneTick.2.1 85 = .ok (.aload_n 0, 1) := by decide +kernel
theorem dX5_passOneTick_86 : decode mX5_passOneTick.2.1 86 = .ok (.dup, 1) := by decide +kernel
theorem dX5_passOneTick_87 : decode mX5_passOneTick.2.1 87 = .ok (.getfield 49, 3) := by decide +kernel
theorem dX5_passOneTick_90 : decode mX5_passOneTick.2.1 90 = .ok (.iconst 1, 1) := by decide +kernel
theorem dX5_passOneTick_91 : decode mX5_passOneTick.2.1 91 = .ok (.iadd, 1) := by decide +kernel
theorem dX5_passOneTick_92 : decode mX5_passOneTick.2.1 92 = .ok (.putfield 49, 3) := by decide +kernel
theorem dX5_passOneTick_95 : decode mX5_passOneTick.2.1 95 = .ok (.return_, 1) := by decide +kernel
theorem dX5_workZones_0 : decode mX5_workZones.2.1 0 = .ok (.bipush 12, 2) := by decide +kernel
theorem dX5_workZones_2 : decode mX5_workZones.2.1 2 = .ok (.istore_n 2, 1) := by decide +kernel
theorem dX5_workZones_3 : decode mX5_workZones.2.1 3 = .ok (.iload_n 2, 1) := by decide +kernel
theorem dX5_workZones_4 : decode mX5_workZones.2.1 4 = .ok (.iconst 1, 1) := by decide +kernel
theorem dX5_workZones_5 : decode mX5_workZones.2.1 5 = .ok (.if_icmp .lt 74, 3) := by decide +kernel
theorem dX5_workZones_8 : decode mX5_workZones.2.1 8 = .ok (.aload_n 1, 1) := by decide +kernel
theorem dX5_workZones_9 : decode mX5_workZones.2.1 9 = .ok (.getfield 82, 3) := by decide +kernel
theorem dX5_workZones_12 : decode mX5_workZones.2.1 12 = .ok (.iload_n 2, 1) := by decide +kernel
theorem dX5_workZones_13 : decode mX5_workZones.2.1 13 = .ok (.aaload, 1) := by decide +kernel
theorem dX5_workZones_14 : decode mX5_workZones.2.1 14 = .ok (.astore_n 3, 1) := by decide +kernel
theorem dX5_workZones_15 : decode mX5_workZones.2.1 15 = .ok (.aload_n 3, 1) := by decide +kernel
theorem dX5_workZones_16 : decode mX5_workZones.2.1 16 = .ok (.ifnull 57, 3) := by decide +kernel
theorem dX5_workZones_19 : decode mX5_workZones.2.1 19 = .ok (.aload_n 3, 1) := by decide +kernel
theorem dX5_workZones_20 : decode mX5_workZones.2.1 20 = .ok (.dup, 1) := by decide +kernel
theorem dX5_workZones_21 : decode mX5_workZones.2.1 21 = .ok (.getfield 152, 3) := by decide +kernel
theorem dX5_workZones_24 : decode mX5_workZones.2.1 24 = .ok (.iconst 1, 1) := by decide +kernel
theorem dX5_workZones_25 : decode mX5_workZones.2.1 25 = .ok (.iadd, 1) := by decide +kernel
theorem dX5_workZones_26 : decode mX5_workZones.2.1 26 = .ok (.putfield 152, 3) := by decide +kernel
theorem dX5_workZones_29 : decode mX5_workZones.2.1 29 = .ok (.iload_n 2, 1) := by decide +kernel
theorem dX5_workZones_30 : decode mX5_workZones.2.1 30 = .ok (.bipush 12, 2) := by decide +kernel
theorem dX5_workZones_32 : decode mX5_workZones.2.1 32 = .ok (.if_icmp .ge 11, 3) := by decide +kernel
theorem dX5_workZones_35 : decode mX5_workZones.2.1 35 = .ok (.aload_n 1, 1) := by decide +kernel
theorem dX5_workZones_36 : decode mX5_workZones.2.1 36 = .ok (.iload_n 2, 1) := by decide +kernel
theorem dX5_workZones_37 : decode mX5_workZones.2.1 37 = .ok (.invokevirtual 219, 3) := by decide +kernel
theorem dX5_workZones_40 : decode mX5_workZones.2.1 40 = .ok (.goto 33, 3) := by decide +kernel
theorem dX5_workZones_43 : decode mX5_workZones.2.1 43 = .ok (.aload_n 3, 1) := by decide +kernel
theorem dX5_workZones_44 : decode mX5_workZones.2.1 44 = .ok (.invokevirtual 86, 3) := by decide +kernel
theorem dX5_workZones_47 : decode mX5_workZones.2.1 47 = .ok (.ifCond .eq 12, 3) := by decide +kernel
theorem dX5_workZones_50 : decode mX5_workZones.2.1 50 = .ok (.aload_n 0, 1) := by decide +kernel
theorem dX5_workZones_51 : decode mX5_workZones.2.1 51 = .ok (.aload_n 1, 1) := by decide +kernel
theorem dX5_workZones_52 : decode mX5_workZones.2.1 52 = .ok (.aload_n 3, 1) := by decide +kernel
theorem dX5_workZones_53 : decode mX5_workZones.2.1 53 = .ok (.invokevirtual 222, 3) := by decide +kernel
theorem dX5_workZones_56 : decode mX5_workZones.2.1 56 = .ok (.goto 17, 3) := by decide +kernel
theorem dX5_workZones_59 : decode mX5_workZones.2.1 59 = .ok (.aload_n 0, 1) := by decide +kernel
theorem dX5_workZones_60 : decode mX5_workZones.2.1 60 = .ok (.aload_n 1, 1) := by decide +kernel
theorem dX5_workZones_61 : decode mX5_workZones.2.1 61 = .ok (.aload_n 3, 1) := by decide +kernel
theorem dX5_workZones_62 : decode mX5_workZones.2.1 62 = .ok (.invokevirtual 226, 3) := by decide +kernel
theorem dX5_workZones_65 : decode mX5_workZones.2.1 65 = .ok (.ifCond .eq 8, 3) := by decide +kernel
theorem dX5_workZones_68 : decode mX5_workZones.2.1 68 = .ok (.aload_n 3, 1) := by decide +kernel
theorem dX5_workZones_69 : decode mX5_workZones.2.1 69 = .ok (.iconst 0, 1) := by decide +kernel
theorem dX5_workZones_70 : decode mX5_workZones.2.1 70 = .ok (.putfield 155, 3) := by decide +kernel
theorem dX5_workZones_73 : decode mX5_workZones.2.1 73 = .ok (.iinc 2 (-1), 3) := by decide +kernel
theorem dX5_workZones_76 : decode mX5_workZones.2.1 76 = .ok (.goto (-73), 3) := by decide +kernel
theorem dX5_workZones_79 : decode mX5_workZones.2.1 79 = .ok (.return_, 1) := by decide +kernel
theorem dX5_mayClamp_0 : decode mX5_mayClamp.2.1 0 = .ok (.aload_n 2, 1) := by decide +kernel
theorem dX5_mayClamp_1 : decode mX5_mayClamp.2.1 1 = .ok (.getfield 152, 3) := by decide +kernel
theorem dX5_mayClamp_4 : decode mX5_mayClamp.2.1 4 = .ok (.bipush 15, 2) := by decide +kernel
theorem dX5_mayClamp_6 : decode mX5_mayClamp.2.1 6 = .ok (.if_icmp .lt 33, 3) := by decide +kernel
theorem dX5_mayClamp_9 : decode mX5_mayClamp.2.1 9 = .ok (.aload_n 0, 1) := by decide +kernel
theorem dX5_mayClamp_10 : decode mX5_mayClamp.2.1 10 = .ok (.getfield 36, 3) := by decide +kernel
theorem dX5_mayClamp_13 : decode mX5_mayClamp.2.1 13 = .ok (.ifCond .ne 26, 3) := by decide +kernel
theorem dX5_mayClamp_16 : decode mX5_mayClamp.2.1 16 = .ok (.aload_n 0, 1) := by decide +kernel
theorem dX5_mayClamp_17 : decode mX5_mayClamp.2.1 17 = .ok (.getfield 10, 3) := by decide +kernel
theorem dX5_mayClamp_20 : decode mX5_mayClamp.2.1 20 = .ok (.aload_n 1, 1) := by decide +kernel
theorem dX5_mayClamp_21 : decode mX5_mayClamp.2.1 21 = .ok (.getfield 230, 3) := by decide +kernel
theorem dX5_mayClamp_24 : decode mX5_mayClamp.2.1 24 = .ok (.aload_n 0, 1) := by decide +kernel
theorem dX5_mayClamp_25 : decode mX5_mayClamp.2.1 25 = .ok (.aload_n 1, 1) := by decide +kernel
theorem dX5_mayClamp_26 : decode mX5_mayClamp.2.1 26 = .ok (.invokevirtual 231, 3) := by decide +kernel
theorem dX5_mayClamp_29 : decode mX5_mayClamp.2.1 29 = .ok (.invokevirtual 235, 3) := by decide +kernel
theorem dX5_mayClamp_32 : decode mX5_mayClamp.2.1 32 = .ok (.ifCond .eq 7, 3) := by decide +kernel
theorem dX5_mayClamp_35 : decode mX5_mayClamp.2.1 35 = .ok (.iconst 1, 1) := by decide +kernel
theorem dX5_mayClamp_36 : decode mX5_mayClamp.2.1 36 = .ok (.goto 4, 3) := by decide +kernel
theorem dX5_mayClamp_39 : decode mX5_mayClamp.2.1 39 = .ok (.iconst 0, 1) := by decide +kernel
theorem dX5_mayClamp_40 : decode mX5_mayClamp.2.1 40 = .ok (.ireturn, 1) := by decide +kernel
theorem dX5_spacing_0 : decode mX5_spacing.2.1 0 = .ok (.aload_n 1, 1) := by decide +kernel
theorem dX5_spacing_1 : decode mX5_spacing.2.1 1 = .ok (.invokevirtual 239, 3) := by decide +kernel
theorem dX5_spacing_4 : decode mX5_spacing.2.1 4 = .ok (.bipush 6, 2) := by decide +kernel
theorem dX5_spacing_6 : decode mX5_spacing.2.1 6 = .ok (.if_icmp .lt 6, 3) := by decide +kernel
theorem dX5_spacing_9 : decode mX5_spacing.2.1 9 = .ok (.bipush 90, 2) := by decide +kernel
theorem dX5_spacing_11 : decode mX5_spacing.2.1 11 = .ok (.ireturn, 1) := by decide +kernel
theorem dX5_spacing_12 : decode mX5_spacing.2.1 12 = .ok (.sipush 12000, 3) := by decide +kernel
theorem dX5_spacing_15 : decode mX5_spacing.2.1 15 = .ok (.aload_n 0, 1) := by decide +kernel
theorem dX5_spacing_16 : decode mX5_spacing.2.1 16 = .ok (.getfield 40, 3) := by decide +kernel
theorem dX5_spacing_19 : decode mX5_spacing.2.1 19 = .ok (.iconst 1, 1) := by decide +kernel
theorem dX5_spacing_20 : decode mX5_spacing.2.1 20 = .ok (.invokestatic 242, 3) := by decide +kernel
theorem dX5_spacing_23 : decode mX5_spacing.2.1 23 = .ok (.idiv, 1) := by decide +kernel
theorem dX5_spacing_24 : decode mX5_spacing.2.1 24 = .ok (.bipush 90, 2) := by decide +kernel
theorem dX5_spacing_26 : decode mX5_spacing.2.1 26 = .ok (.invokestatic 242, 3) := by decide +kernel
theorem dX5_spacing_29 : decode mX5_spacing.2.1 29 = .ok (.ireturn, 1) := by decide +kernel
theorem dX5_goOnClamping_0 : decode mX5_goOnClamping.2.1 0 = .ok (.aload_n 2, 1) := by decide +kernel
theorem dX5_goOnClamping_1 : decode mX5_goOnClamping.2.1 1 = .ok (.dup, 1) := by decide +kernel
theorem dX5_goOnClamping_2 : decode mX5_goOnClamping.2.1 2 = .ok (.getfield 155, 3) := by decide +kernel
theorem dX5_goOnClamping_5 : decode mX5_goOnClamping.2.1 5 = .ok (.iconst 1, 1) := by decide +kernel
theorem dX5_goOnClamping_6 : decode mX5_goOnClamping.2.1 6 = .ok (.iadd, 1) := by decide +kernel
theorem dX5_goOnClamping_7 : decode mX5_goOnClamping.2.1 7 = .ok (.putfield 155, 3) := by decide +kernel
theorem dX5_goOnClamping_10 : decode mX5_goOnClamping.2.1 10 = .ok (.aload_n 2, 1) := by decide +kernel
theorem dX5_goOnClamping_11 : decode mX5_goOnClamping.2.1 11 = .ok (.invokevirtual 245, 3) := by decide +kernel
theorem dX5_goOnClamping_14 : decode mX5_goOnClamping.2.1 14 = .ok (.ifCond .eq 31, 3) := by decide +kernel
theorem dX5_goOnClamping_17 : decode mX5_goOnClamping.2.1 17 = .ok (.aload_n 2, 1) := by decide +kernel
theorem dX5_goOnClamping_18 : decode mX5_goOnClamping.2.1 18 = .ok (.invokevirtual 248, 3) := by decide +kernel
theorem dX5_goOnClamping_21 : decode mX5_goOnClamping.2.1 21 = .ok (.istore_n 3, 1) := by decide +kernel
theorem dX5_goOnClamping_22 : decode mX5_goOnClamping.2.1 22 = .ok (.iload_n 3, 1) := by decide +kernel
theorem dX5_goOnClamping_23 : decode mX5_goOnClamping.2.1 23 = .ok (.ifCond .ne 12, 3) := by decide +kernel
theorem dX5_goOnClamping_26 : decode mX5_goOnClamping.2.1 26 = .ok (.aload_n 0, 1) := by decide +kernel
theorem dX5_goOnClamping_27 : decode mX5_goOnClamping.2.1 27 = .ok (.aload_n 1, 1) := by decide +kernel
theorem dX5_goOnClamping_28 : decode mX5_goOnClamping.2.1 28 = .ok (.aload_n 2, 1) := by decide +kernel
theorem dX5_goOnClamping_29 : decode mX5_goOnClamping.2.1 29 = .ok (.invokevirtual 251, 3) := by decide +kernel
theorem dX5_goOnClamping_32 : decode mX5_goOnClamping.2.1 32 = .ok (.goto 10, 3) := by decide +kernel
theorem dX5_goOnClamping_35 : decode mX5_goOnClamping.2.1 35 = .ok (.aload_n 0, 1) := by decide +kernel
theorem dX5_goOnClamping_36 : decode mX5_goOnClamping.2.1 36 = .ok (.aload_n 1, 1) := by decide +kernel
theorem dX5_goOnClamping_37 : decode mX5_goOnClamping.2.1 37 = .ok (.aload_n 2, 1) := by decide +kernel
theorem dX5_goOnClamping_38 : decode mX5_goOnClamping.2.1 38 = .ok (.iload_n 3, 1) := by decide +kernel
theorem dX5_goOnClamping_39 : decode mX5_goOnClamping.2.1 39 = .ok (.invokevirtual 254, 3) := by decide +kernel
theorem dX5_goOnClamping_42 : decode mX5_goOnClamping.2.1 42 = .ok (.goto 19, 3) := by decide +kernel
theorem dX5_goOnClamping_45 : decode mX5_goOnClamping.2.1 45 = .ok (.aload_n 2, 1) := by decide +kernel
theorem dX5_goOnClamping_46 : decode mX5_goOnClamping.2.1 46 = .ok (.getfield 155, 3) := by decide +kernel
theorem dX5_goOnClamping_49 : decode mX5_goOnClamping.2.1 49 = .ok (.bipush 40, 2) := by decide +kernel
theorem dX5_goOnClamping_51 : decode mX5_goOnClamping.2.1 51 = .ok (.if_icmp .lt 10, 3) := by decide +kernel
theorem dX5_goOnClamping_54 : decode mX5_goOnClamping.2.1 54 = .ok (.aload_n 0, 1) := by decide +kernel
theorem dX5_goOnClamping_55 : decode mX5_goOnClamping.2.1 55 = .ok (.aload_n 1, 1) := by decide +kernel
theorem dX5_goOnClamping_56 : decode mX5_goOnClamping.2.1 56 = .ok (.aload_n 2, 1) := by decide +kernel
theorem dX5_goOnClamping_57 : decode mX5_goOnClamping.2.1 57 = .ok (.iconst 3, 1) := by decide +kernel
theorem dX5_goOnClamping_58 : decode mX5_goOnClamping.2.1 58 = .ok (.invokevirtual 254, 3) := by decide +kernel
theorem dX5_goOnClamping_61 : decode mX5_goOnClamping.2.1 61 = .ok (.return_, 1) := by decide +kernel
theorem dX5_leave_0 : decode mX5_leave.2.1 0 = .ok (.aload_n 1, 1) := by decide +kernel
theorem dX5_leave_1 : decode mX5_leave.2.1 1 = .ok (.getfield 82, 3) := by decide +kernel
theorem dX5_leave_4 : decode mX5_leave.2.1 4 = .ok (.bipush 12, 2) := by decide +kernel
theorem dX5_leave_6 : decode mX5_leave.2.1 6 = .ok (.aconst_null, 1) := by decide +kernel
theorem dX5_leave_7 : decode mX5_leave.2.1 7 = .ok (.aastore, 1) := by decide +kernel
theorem dX5_leave_8 : decode mX5_leave.2.1 8 = .ok (.aload_n 2, 1) := by decide +kernel
theorem dX5_leave_9 : decode mX5_leave.2.1 9 = .ok (.invokevirtual 258, 3) := by decide +kernel
theorem dX5_leave_12 : decode mX5_leave.2.1 12 = .ok (.aload_n 2, 1) := by decide +kernel
theorem dX5_leave_13 : decode mX5_leave.2.1 13 = .ok (.iconst 3, 1) := by decide +kernel
theorem dX5_leave_14 : decode mX5_leave.2.1 14 = .ok (.invokevirtual 261, 3) := by decide +kernel
theorem dX5_leave_17 : decode mX5_leave.2.1 17 = .ok (.aload_n 2, 1) := by decide +kernel
theorem dX5_leave_18 : decode mX5_leave.2.1 18 = .ok (.aload_n 1, 1) := by decide +kernel
theorem dX5_leave_19 : decode mX5_leave.2.1 19 = .ok (.getfield 230, 3) := by decide +kernel
theorem dX5_leave_22 : decode mX5_leave.2.1 22 = .ok (.putfield 135, 3) := by decide +kernel
theorem dX5_leave_25 : decode mX5_leave.2.1 25 = .ok (.aload_n 2, 1) := by decide +kernel
theorem dX5_leave_26 : decode mX5_leave.2.1 26 = .ok (.iconst 0, 1) := by decide +kernel
theorem dX5_leave_27 : decode mX5_leave.2.1 27 = .ok (.putfield 197, 3) := by decide +kernel
theorem dX5_leave_30 : decode mX5_leave.2.1 30 = .ok (.aload_n 2, 1) := by decide +kernel
theorem dX5_leave_31 : decode mX5_leave.2.1 31 = .ok (.dup, 1) := by decide +kernel
theorem dX5_leave_32 : decode mX5_leave.2.1 32 = .ok (.getfield 161, 3) := by decide +kernel
theorem dX5_leave_35 : decode mX5_leave.2.1 35 = .ok (.iconst 1, 1) := by decide +kernel
theorem dX5_leave_36 : decode mX5_leave.2.1 36 = .ok (.iadd, 1) := by decide +kernel
theorem dX5_leave_37 : decode mX5_leave.2.1 37 = .ok (.putfield 161, 3) := by decide +kernel
theorem dX5_leave_40 : decode mX5_leave.2.1 40 = .ok (.return_, 1) := by decide +kernel
theorem dX5_fail_0 : decode mX5_fail.2.1 0 = .ok (.aload_n 2, 1) := by decide +kernel
theorem dX5_fail_1 : decode mX5_fail.2.1 1 = .ok (.iload_n 3, 1) := by decide +kernel
theorem dX5_fail_2 : decode mX5_fail.2.1 2 = .ok (.putfield 164, 3) := by decide +kernel
theorem dX5_fail_5 : decode mX5_fail.2.1 5 = .ok (.aload_n 2, 1) := by decide +kernel
theorem dX5_fail_6 : decode mX5_fail.2.1 6 = .ok (.invokevirtual 258, 3) := by decide +kernel
theorem dX5_fail_9 : decode mX5_fail.2.1 9 = .ok (.aload_n 0, 1) := by decide +kernel
theorem dX5_fail_10 : decode mX5_fail.2.1 10 = .ok (.iconst 0, 1) := by decide +kernel
theorem dX5_fail_11 : decode mX5_fail.2.1 11 = .ok (.invokevirtual 200, 3) := by decide +kernel
theorem dX5_fail_14 : decode mX5_fail.2.1 14 = .ok (.aload_n 0, 1) := by decide +kernel
theorem dX5_fail_15 : decode mX5_fail.2.1 15 = .ok (.getfield 25, 3) := by decide +kernel
theorem dX5_fail_18 : decode mX5_fail.2.1 18 = .ok (.invokevirtual 114, 3) := by decide +kernel
theorem dX5_fail_21 : decode mX5_fail.2.1 21 = .ok (.ifCond .eq 22, 3) := by decide +kernel
theorem dX5_fail_24 : decode mX5_fail.2.1 24 = .ok (.aload_n 1, 1) := by decide +kernel
theorem dX5_fail_25 : decode mX5_fail.2.1 25 = .ok (.getfield 82, 3) := by decide +kernel
theorem dX5_fail_28 : decode mX5_fail.2.1 28 = .ok (.bipush 12, 2) := by decide +kernel
theorem dX5_fail_30 : decode mX5_fail.2.1 30 = .ok (.aconst_null, 1) := by decide +kernel
theorem dX5_fail_31 : decode mX5_fail.2.1 31 = .ok (.aastore, 1) := by decide +kernel
theorem dX5_fail_32 : decode mX5_fail.2.1 32 = .ok (.aload_n 0, 1) := by decide +kernel
theorem dX5_fail_33 : decode mX5_fail.2.1 33 = .ok (.getfield 25, 3) := by decide +kernel
theorem dX5_fail_36 : decode mX5_fail.2.1 36 = .ok (.aload_n 2, 1) := by decide +kernel
theorem dX5_fail_37 : decode mX5_fail.2.1 37 = .ok (.invokevirtual 117, 3) := by decide +kernel
theorem dX5_fail_40 : decode mX5_fail.2.1 40 = .ok (.goto 13, 3) := by decide +kernel
theorem dX5_fail_43 : decode mX5_fail.2.1 43 = .ok (.aload_n 0, 1) := by decide +kernel
theorem dX5_fail_44 : decode mX5_fail.2.1 44 = .ok (.iconst 1, 1) := by decide +kernel
theorem dX5_fail_45 : decode mX5_fail.2.1 45 = .ok (.invokevirtual 200, 3) := by decide +kernel
theorem dX5_fail_48 : decode mX5_fail.2.1 48 = .ok (.aload_n 2, 1) := by decide +kernel
theorem dX5_fail_49 : decode mX5_fail.2.1 49 = .ok (.iconst 0, 1) := by decide +kernel
theorem dX5_fail_50 : decode mX5_fail.2.1 50 = .ok (.putfield 152, 3) := by decide +kernel
theorem dX5_fail_53 : decode mX5_fail.2.1 53 = .ok (.return_, 1) := by decide +kernel
theorem dX5_targetSpeed_0 : decode mX5_targetSpeed.2.1 0 = .ok (.aload_n 0, 1) := by decide +kernel
theorem dX5_targetSpeed_1 : decode mX5_targetSpeed.2.1 1 = .ok (.getfield 36, 3) := by decide +kernel
theorem dX5_targetSpeed_4 : decode mX5_targetSpeed.2.1 4 = .ok (.ifCond .ne 10, 3) := by decide +kernel
theorem dX5_targetSpeed_7 : decode mX5_targetSpeed.2.1 7 = .ok (.aload_n 0, 1) := by decide +kernel
theorem dX5_targetSpeed_8 : decode mX5_targetSpeed.2.1 8 = .ok (.invokevirtual 264, 3) := by decide +kernel
theorem dX5_targetSpeed_11 : decode mX5_targetSpeed.2.1 11 = .ok (.ifCond .eq 5, 3) := by decide +kernel
theorem dX5_targetSpeed_14 : decode mX5_targetSpeed.2.1 14 = .ok (.iconst 0, 1) := by decide +kernel
theorem dX5_targetSpeed_15 : decode mX5_targetSpeed.2.1 15 = .ok (.ireturn, 1) := by decide +kernel
theorem dX5_targetSpeed_16 : decode mX5_targetSpeed.2.1 16 = .ok (.aload_n 0, 1) := by decide +kernel
theorem dX5_targetSpeed_17 : decode mX5_targetSpeed.2.1 17 = .ok (.getfield 32, 3) := by decide +kernel
theorem dX5_targetSpeed_20 : decode mX5_targetSpeed.2.1 20 = .ok (.getfield 177, 3) := by decide +kernel
theorem dX5_targetSpeed_23 : decode mX5_targetSpeed.2.1 23 = .ok (.sipush 180, 3) := by decide +kernel
theorem dX5_targetSpeed_26 : decode mX5_targetSpeed.2.1 26 = .ok (.if_icmp .le 14, 3) := by decide +kernel
theorem dX5_targetSpeed_29 : decode mX5_targetSpeed.2.1 29 = .ok (.aload_n 0, 1) := by decide +kernel
theorem dX5_targetSpeed_30 : decode mX5_targetSpeed.2.1 30 = .ok (.getfield 43, 3) := by decide +kernel
theorem dX5_targetSpeed_33 : decode mX5_targetSpeed.2.1 33 = .ok (.iconst 2, 1) := by decide +kernel
theorem dX5_targetSpeed_34 : decode mX5_targetSpeed.2.1 34 = .ok (.invokestatic 203, 3) := by decide +kernel
theorem dX5_targetSpeed_37 : decode mX5_targetSpeed.2.1 37 = .ok (.goto 7, 3) := by decide +kernel
theorem dX5_targetSpeed_40 : decode mX5_targetSpeed.2.1 40 = .ok (.aload_n 0, 1) := by decide +kernel
theorem dX5_targetSpeed_41 : decode mX5_targetSpeed.2.1 41 = .ok (.getfield 43, 3) := by decide +kernel
theorem dX5_targetSpeed_44 : decode mX5_targetSpeed.2.1 44 = .ok (.ireturn, 1) := by decide +kernel
theorem dX5_isArrivalHeldUp_0 : decode mX5_isArrivalHeldUp.2.1 0 = .ok (.iconst 0, 1) := by decide +kernel
theorem dX5_isArrivalHeldUp_1 : decode mX5_isArrivalHeldUp.2.1 1 = .ok (.istore_n 1, 1) := by decide +kernel
theorem dX5_isArrivalHeldUp_2 : decode mX5_isArrivalHeldUp.2.1 2 = .ok (.iload_n 1, 1) := by decide +kernel
theorem dX5_isArrivalHeldUp_3 : decode mX5_isArrivalHeldUp.2.1 3 = .ok (.iconst 2, 1) := by decide +kernel
theorem dX5_isArrivalHeldUp_4 : decode mX5_isArrivalHeldUp.2.1 4 = .ok (.if_icmp .ge 38, 3) := by decide +kernel
theorem dX5_isArrivalHeldUp_7 : decode mX5_isArrivalHeldUp.2.1 7 = .ok (.aload_n 0, 1) := by decide +kernel
theorem dX5_isArrivalHeldUp_8 : decode mX5_isArrivalHeldUp.2.1 8 = .ok (.getfield 18, 3) := by decide +kernel
theorem dX5_isArrivalHeldUp_11 : decode mX5_isArrivalHeldUp.2.1 11 = .ok (.iload_n 1, 1) := by decide +kernel
theorem dX5_isArrivalHeldUp_12 : decode mX5_isArrivalHeldUp.2.1 12 = .ok (.aaload, 1) := by decide +kernel
theorem dX5_isArrivalHeldUp_13 : decode mX5_isArrivalHeldUp.2.1 13 = .ok (.getfield 82, 3) := by decide +kernel
theorem dX5_isArrivalHeldUp_16 : decode mX5_isArrivalHeldUp.2.1 16 = .ok (.iconst 1, 1) := by decide +kernel
theorem dX5_isArrivalHeldUp_17 : decode mX5_isArrivalHeldUp.2.1 17 = .ok (.aaload, 1) := by decide +kernel
theorem dX5_isArrivalHeldUp_18 : decode mX5_isArrivalHeldUp.2.1 18 = .ok (.ifnull 18, 3) := by decide +kernel
theorem dX5_isArrivalHeldUp_21 : decode mX5_isArrivalHeldUp.2.1 21 = .ok (.aload_n 0, 1) := by decide +kernel
theorem dX5_isArrivalHeldUp_22 : decode mX5_isArrivalHeldUp.2.1 22 = .ok (.getfield 10, 3) := by decide +kernel
theorem dX5_isArrivalHeldUp_25 : decode mX5_isArrivalHeldUp.2.1 25 = .ok (.iconst 1, 1) := by decide +kernel
theorem dX5_isArrivalHeldUp_26 : decode mX5_isArrivalHeldUp.2.1 26 = .ok (.iload_n 1, 1) := by decide +kernel
theorem dX5_isArrivalHeldUp_27 : decode mX5_isArrivalHeldUp.2.1 27 = .ok (.isub, 1) := by decide +kernel
theorem dX5_isArrivalHeldUp_28 : decode mX5_isArrivalHeldUp.2.1 28 = .ok (.invokevirtual 267, 3) := by decide +kernel
theorem dX5_isArrivalHeldUp_31 : decode mX5_isArrivalHeldUp.2.1 31 = .ok (.ifCond .eq 5, 3) := by decide +kernel
theorem dX5_isArrivalHeldUp_34 : decode mX5_isArrivalHeldUp.2.1 34 = .ok (.iconst 1, 1) := by decide +kernel
theorem dX5_isArrivalHeldUp_35 : decode mX5_isArrivalHeldUp.2.1 35 = .ok (.ireturn, 1) := by decide +kernel
theorem dX5_isArrivalHeldUp_36 : decode mX5_isArrivalHeldUp.2.1 36 = .ok (.iinc 1 1, 3) := by decide +kernel
theorem dX5_isArrivalHeldUp_39 : decode mX5_isArrivalHeldUp.2.1 39 = .ok (.goto (-37), 3) := by decide +kernel
theorem dX5_isArrivalHeldUp_42 : decode mX5_isArrivalHeldUp.2.1 42 = .ok (.iconst 0, 1) := by decide +kernel
theorem dX5_isArrivalHeldUp_43 : decode mX5_isArrivalHeldUp.2.1 43 = .ok (.ireturn, 1) := by decide +kernel
