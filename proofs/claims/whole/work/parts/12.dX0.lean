/-! decode rows -/
theorem dX0_init_0 : decode mX0_init.2.1 0 = .ok (.aload_n 0, 1) := by decide +kernel
theorem dX0_init_1 : decode mX0_init.2.1 1 = .ok (.invokespecial 3, 3) := by decide +kernel
theorem dX0_init_4 : decode mX0_init.2.1 4 = .ok (.aload_n 0, 1) := by decide +kernel
theorem dX0_init_5 : decode mX0_init.2.1 5 = .ok (.iconst 0, 1) := by decide +kernel
theorem dX0_init_6 : decode mX0_init.2.1 6 = .ok (.putfield 9, 3) := by decide +kernel
theorem dX0_init_9 : decode mX0_init.2.1 9 = .ok (.aload_n 0, 1) := by decide +kernel
theorem dX0_init_10 : decode mX0_init.2.1 10 = .ok (.iconst (-1), 1) := by decide +kernel
theorem dX0_init_11 : decode mX0_init.2.1 11 = .ok (.putfield 15, 3) := by decide +kernel
theorem dX0_init_14 : decode mX0_init.2.1 14 = .ok (.aload_n 0, 1) := by decide +kernel
theorem dX0_init_15 : decode mX0_init.2.1 15 = .ok (.iconst (-1), 1) := by decide +kernel
theorem dX0_init_16 : decode mX0_init.2.1 16 = .ok (.putfield 18, 3) := by decide +kernel
theorem dX0_init_19 : decode mX0_init.2.1 19 = .ok (.aload_n 0, 1) := by decide +kernel
theorem dX0_init_20 : decode mX0_init.2.1 20 = .ok (.iconst 0, 1) := by decide +kernel
theorem dX0_init_21 : decode mX0_init.2.1 21 = .ok (.putfield 21, 3) := by decide +kernel
theorem dX0_init_24 : decode mX0_init.2.1 24 = .ok (.aload_n 0, 1) := by decide +kernel
theorem dX0_init_25 : decode mX0_init.2.1 25 = .ok (.iconst (-1), 1) := by decide +kernel
theorem dX0_init_26 : decode mX0_init.2.1 26 = .ok (.putfield 24, 3) := by decide +kernel
theorem dX0_init_29 : decode mX0_init.2.1 29 = .ok (.aload_n 0, 1) := by decide +kernel
theorem dX0_init_30 : decode mX0_init.2.1 30 = .ok (.iconst (-1), 1) := by decide +kernel
theorem dX0_init_31 : decode mX0_init.2.1 31 = .ok (.putfield 27, 3) := by decide +kernel
theorem dX0_init_34 : decode mX0_init.2.1 34 = .ok (.aload_n 0, 1) := by decide +kernel
theorem dX0_init_35 : decode mX0_init.2.1 35 = .ok (.iconst (-1), 1) := by decide +kernel
theorem dX0_init_36 : decode mX0_init.2.1 36 = .ok (.putfield 30, 3) := by decide +kernel
theorem dX0_init_39 : decode mX0_init.2.1 39 = .ok (.aload_n 0, 1) := by decide +kernel
theorem dX0_init_40 : decode mX0_init.2.1 40 = .ok (.iconst (-1), 1) := by decide +kernel
theorem dX0_init_41 : decode mX0_init.2.1 41 = .ok (.putfield 33, 3) := by decide +kernel
theorem dX0_init_44 : decode mX0_init.2.1 44 = .ok (.aload_n 0, 1) := by decide +kernel
theorem dX0_init_45 : decode mX0_init.2.1 45 = .ok (.iconst 0, 1) := by decide +kernel
theorem dX0_init_46 : decode mX0_init.2.1 46 = .ok (.putfield 36, 3) := by decide +kernel
theorem dX0_init_49 : decode mX0_init.2.1 49 = .ok (.aload_n 0, 1) := by decide +kernel
theorem dX0_init_50 : decode mX0_init.2.1 50 = .ok (.iconst 0, 1) := by decide +kernel
theorem dX0_init_51 : decode mX0_init.2.1 51 = .ok (.putfield 39, 3) := by decide +kernel
theorem dX0_init_54 : decode mX0_init.2.1 54 = .ok (.aload_n 0, 1) := by decide +kernel
theorem dX0_init_55 : decode mX0_init.2.1 55 = .ok (.iload_n 1, 1) := by decide +kernel
theorem dX0_init_56 : decode mX0_init.2.1 56 = .ok (.putfield 42, 3) := by decide +kernel
theorem dX0_init_59 : decode mX0_init.2.1 59 = .ok (.return_, 1) := by decide +kernel
theorem dX0_standAt_0 : decode mX0_standAt.2.1 0 = .ok (.aload_n 0, 1) := by decide +kernel
theorem dX0_standAt_1 : decode mX0_standAt.2.1 1 = .ok (.iload_n 1, 1) := by decide +kernel
theorem dX0_standAt_2 : decode mX0_standAt.2.1 2 = .ok (.putfield 9, 3) := by decide +kernel
theorem dX0_standAt_5 : decode mX0_standAt.2.1 5 = .ok (.aload_n 0, 1) := by decide +kernel
theorem dX0_standAt_6 : decode mX0_standAt.2.1 6 = .ok (.iconst (-1), 1) := by decide +kernel
theorem dX0_standAt_7 : decode mX0_standAt.2.1 7 = .ok (.putfield 15, 3) := by decide +kernel
theorem dX0_standAt_10 : decode mX0_standAt.2.1 10 = .ok (.aload_n 0, 1) := by decide +kernel
theorem dX0_standAt_11 : decode mX0_standAt.2.1 11 = .ok (.iconst (-1), 1) := by decide +kernel
theorem dX0_standAt_12 : decode mX0_standAt.2.1 12 = .ok (.putfield 18, 3) := by decide +kernel
theorem dX0_standAt_15 : decode mX0_standAt.2.1 15 = .ok (.aload_n 0, 1) := by decide +kernel
theorem dX0_standAt_16 : decode mX0_standAt.2.1 16 = .ok (.iconst (-1), 1) := by decide +kernel
theorem dX0_standAt_17 : decode mX0_standAt.2.1 17 = .ok (.putfield 24, 3) := by decide +kernel
theorem dX0_standAt_20 : decode mX0_standAt.2.1 20 = .ok (.return_, 1) := by decide +kernel
theorem dX0_stopClamping_0 : decode mX0_stopClamping.2.1 0 = .ok (.aload_n 0, 1) := by decide +kernel
theorem dX0_stopClamping_1 : decode mX0_stopClamping.2.1 1 = .ok (.iconst (-1), 1) := by decide +kernel
theorem dX0_stopClamping_2 : decode mX0_stopClamping.2.1 2 = .ok (.putfield 27, 3) := by decide +kernel
theorem dX0_stopClamping_5 : decode mX0_stopClamping.2.1 5 = .ok (.aload_n 0, 1) := by decide +kernel
theorem dX0_stopClamping_6 : decode mX0_stopClamping.2.1 6 = .ok (.iconst (-1), 1) := by decide +kernel
theorem dX0_stopClamping_7 : decode mX0_stopClamping.2.1 7 = .ok (.putfield 30, 3) := by decide +kernel
theorem dX0_stopClamping_10 : decode mX0_stopClamping.2.1 10 = .ok (.aload_n 0, 1) := by decide +kernel
theorem dX0_stopClamping_11 : decode mX0_stopClamping.2.1 11 = .ok (.iconst (-1), 1) := by decide +kernel
theorem dX0_stopClamping_12 : decode mX0_stopClamping.2.1 12 = .ok (.putfield 33, 3) := by decide +kernel
theorem dX0_stopClamping_15 : decode mX0_stopClamping.2.1 15 = .ok (.return_, 1) := by decide +kernel
theorem dX0_isClamping_0 : decode mX0_isClamping.2.1 0 = .ok (.aload_n 0, 1) := by decide +kernel
theorem dX0_isClamping_1 : decode mX0_isClamping.2.1 1 = .ok (.getfield 27, 3) := by decide +kernel
theorem dX0_isClamping_4 : decode mX0_isClamping.2.1 4 = .ok (.ifCond .lt 7, 3) := by decide +kernel
theorem dX0_isClamping_7 : decode mX0_isClamping.2.1 7 = .ok (.iconst 1, 1) := by decide +kernel
theorem dX0_isClamping_8 : decode mX0_isClamping.2.1 8 = .ok (.goto 4, 3) := by decide +kernel
theorem dX0_isClamping_11 : decode mX0_isClamping.2.1 11 = .ok (.iconst 0, 1) := by decide +kernel
theorem dX0_isClamping_12 : decode mX0_isClamping.2.1 12 = .ok (.ireturn, 1) := by decide +kernel
theorem dX0_hasReport_0 : decode mX0_hasReport.2.1 0 = .ok (.aload_n 0, 1) := by decide +kernel
theorem dX0_hasReport_1 : decode mX0_hasReport.2.1 1 = .ok (.getfield 30, 3) := by decide +kernel
theorem dX0_hasReport_4 : decode mX0_hasReport.2.1 4 = .ok (.ifCond .lt 7, 3) := by decide +kernel
theorem dX0_hasReport_7 : decode mX0_hasReport.2.1 7 = .ok (.iconst 1, 1) := by decide +kernel
theorem dX0_hasReport_8 : decode mX0_hasReport.2.1 8 = .ok (.goto 4, 3) := by decide +kernel
theorem dX0_hasReport_11 : decode mX0_hasReport.2.1 11 = .ok (.iconst 0, 1) := by decide +kernel
theorem dX0_hasReport_12 : decode mX0_hasReport.2.1 12 = .ok (.ireturn, 1) := by decide +kernel
theorem dX0_faultOfReport_0 : decode mX0_faultOfReport.2.1 0 = .ok (.aload_n 0, 1) := by decide +kernel
theorem dX0_faultOfReport_1 : decode mX0_faultOfReport.2.1 1 = .ok (.getfield 30, 3) := by decide +kernel
theorem dX0_faultOfReport_4 : decode mX0_faultOfReport.2.1 4 = .ok (.sipush 4000, 3) := by decide +kernel
theorem dX0_faultOfReport_7 : decode mX0_faultOfReport.2.1 7 = .ok (.if_icmp .le 13, 3) := by decide +kernel
theorem dX0_faultOfReport_10 : decode mX0_faultOfReport.2.1 10 = .ok (.aload_n 0, 1) := by decide +kernel
theorem dX0_faultOfReport_11 : decode mX0_faultOfReport.2.1 11 = .ok (.getfield 33, 3) := by decide +kernel
theorem dX0_faultOfReport_14 : decode mX0_faultOfReport.2.1 14 = .ok (.sipush 4000, 3) := by decide +kernel
theorem dX0_faultOfReport_17 : decode mX0_faultOfReport.2.1 17 = .ok (.if_icmp .gt 5, 3) := by decide +kernel
theorem dX0_faultOfReport_20 : decode mX0_faultOfReport.2.1 20 = .ok (.iconst 1, 1) := by decide +kernel
theorem dX0_faultOfReport_21 : decode mX0_faultOfReport.2.1 21 = .ok (.ireturn, 1) := by decide +kernel
theorem dX0_faultOfReport_22 : decode mX0_faultOfReport.2.1 22 = .ok (.bipush 100, 2) := by decide +kernel
theorem dX0_faultOfReport_24 : decode mX0_faultOfReport.2.1 24 = .ok (.aload_n 0, 1) := by decide +kernel
theorem dX0_faultOfReport_25 : decode mX0_faultOfReport.2.1 25 = .ok (.getfield 30, 3) := by decide +kernel
theorem dX0_faultOfReport_28 : decode mX0_faultOfReport.2.1 28 = .ok (.aload_n 0, 1) := by decide +kernel
theorem dX0_faultOfReport_29 : decode mX0_faultOfReport.2.1 29 = .ok (.getfield 33, 3) := by decide +kernel
theorem dX0_faultOfReport_32 : decode mX0_faultOfReport.2.1 32 = .ok (.isub, 1) := by decide +kernel
theorem dX0_faultOfReport_33 : decode mX0_faultOfReport.2.1 33 = .ok (.invokestatic 45, 3) := by decide +kernel
theorem dX0_faultOfReport_36 : decode mX0_faultOfReport.2.1 36 = .ok (.imul, 1) := by decide +kernel
theorem dX0_faultOfReport_37 : decode mX0_faultOfReport.2.1 37 = .ok (.iconst 3, 1) := by decide +kernel
theorem dX0_faultOfReport_38 : decode mX0_faultOfReport.2.1 38 = .ok (.aload_n 0, 1) := by decide +kernel
theorem dX0_faultOfReport_39 : decode mX0_faultOfReport.2.1 39 = .ok (.getfield 30, 3) := by decide +kernel
theorem dX0_faultOfReport_42 : decode mX0_faultOfReport.2.1 42 = .ok (.aload_n 0, 1) := by decide +kernel
theorem dX0_faultOfReport_43 : decode mX0_faultOfReport.2.1 43 = .ok (.getfield 33, 3) := by decide +kernel
theorem dX0_faultOfReport_46 : decode mX0_faultOfReport.2.1 46 = .ok (.invokestatic 51, 3) := by decide +kernel
theorem dX0_faultOfReport_49 : decode mX0_faultOfReport.2.1 49 = .ok (.imul, 1) := by decide +kernel
theorem dX0_faultOfReport_50 : decode mX0_faultOfReport.2.1 50 = .ok (.if_icmp .gt 7, 3) := by decide +kernel
theorem dX0_faultOfReport_53 : decode mX0_faultOfReport.2.1 53 = .ok (.iconst 1, 1) := by decide +kernel
theorem dX0_faultOfReport_54 : decode mX0_faultOfReport.2.1 54 = .ok (.goto 4, 3) := by decide +kernel
theorem dX0_faultOfReport_57 : decode mX0_faultOfReport.2.1 57 = .ok (.iconst 0, 1) := by decide +kernel
theorem dX0_faultOfReport_58 : decode mX0_faultOfReport.2.1 58 = .ok (.istore_n 1, 1) := by decide +kernel
theorem dX0_faultOfReport_59 : decode mX0_faultOfReport.2.1 59 = .ok (.iload_n 1, 1) := by decide +kernel
theorem dX0_faultOfReport_60 : decode mX0_faultOfReport.2.1 60 = .ok (.ifCond .eq 7, 3) := by decide +kernel
theorem dX0_faultOfReport_63 : decode mX0_faultOfReport.2.1 63 = .ok (.iconst 0, 1) := by decide +kernel
theorem dX0_faultOfReport_64 : decode mX0_faultOfReport.2.1 64 = .ok (.goto 4, 3) := by decide +kernel
theorem dX0_faultOfReport_67 : decode mX0_faultOfReport.2.1 67 = .ok (.iconst 2, 1) := by decide +kernel
theorem dX0_faultOfReport_68 : decode mX0_faultOfReport.2.1 68 = .ok (.ireturn, 1) := by decide +kernel
theorem dX0_hasDoorsOpen_0 : decode mX0_hasDoorsOpen.2.1 0 = .ok (.aload_n 0, 1) := by decide +kernel
theorem dX0_hasDoorsOpen_1 : decode mX0_hasDoorsOpen.2.1 1 = .ok (.getfield 18, 3) := by decide +kernel
theorem dX0_hasDoorsOpen_4 : decode mX0_hasDoorsOpen.2.1 4 = .ok (.tableswitch 63 5 8 #[32, 46, 46, 48], 32) := by decide +kernel
theorem dX0_hasDoorsOpen_36 : decode mX0_hasDoorsOpen.2.1 36 = .ok (.aload_n 0, 1) := by decide +kernel
theorem dX0_hasDoorsOpen_37 : decode mX0_hasDoorsOpen.2.1 37 = .ok (.getfield 24, 3) := by decide +kernel
theorem dX0_hasDoorsOpen_40 : decode mX0_hasDoorsOpen.2.1 40 = .ok (.iconst 5, 1) := by decide +kernel
theorem dX0_hasDoorsOpen_41 : decode mX0_hasDoorsOpen.2.1 41 = .ok (.if_icmp .lt 7, 3) := by decide +kernel
theorem dX0_hasDoorsOpen_44 : decode mX0_hasDoorsOpen.2.1 44 = .ok (.iconst 1, 1) := by decide +kernel
theorem dX0_hasDoorsOpen_45 : decode mX0_hasDoorsOpen.2.1 45 = .ok (.goto 4, 3) := by decide +kernel
theorem dX0_hasDoorsOpen_48 : decode mX0_hasDoorsOpen.2.1 48 = .ok (.iconst 0, 1) := by decide +kernel
theorem dX0_hasDoorsOpen_49 : decode mX0_hasDoorsOpen.2.1 49 = .ok (.ireturn, 1) := by decide +kernel
theorem dX0_hasDoorsOpen_50 : decode mX0_hasDoorsOpen.2.1 50 = .ok (.iconst 1, 1) := by decide +kernel
theorem dX0_hasDoorsOpen_51 : decode mX0_hasDoorsOpen.2.1 51 = .ok (.ireturn, 1) := by decide +kernel
theorem dX0_hasDoorsOpen_52 : decode mX0_hasDoorsOpen.2.1 52 = .ok (.aload_n 0, 1) := by decide +kernel
theorem dX0_hasDoorsOpen_53 : decode mX0_hasDoorsOpen.2.1 53 = .ok (.getfield 24, 3) := by decide +kernel
theorem dX0_hasDoorsOpen_56 : decode mX0_hasDoorsOpen.2.1 56 = .ok (.bipush 10, 2) := by decide +kernel
theorem dX0_hasDoorsOpen_58 : decode mX0_hasDoorsOpen.2.1 58 = .ok (.if_icmp .ge 7, 3) := by decide +kernel
theorem dX0_hasDoorsOpen_61 : decode mX0_hasDoorsOpen.2.1 61 = .ok (.iconst 1, 1) := by decide +kernel
theorem dX0_hasDoorsOpen_62 : decode mX0_hasDoorsOpen.2.1 62 = .ok (.goto 4, 3) := by decide +kernel
theorem dX0_hasDoorsOpen_65 : decode mX0_hasDoorsOpen.2.1 65 = .ok (.iconst 0, 1) := by decide +kernel
theorem dX0_hasDoorsOpen_66 : decode mX0_hasDoorsOpen.2.1 66 = .ok (.ireturn, 1) := by decide +kernel
theorem dX0_hasDoorsOpen_67 : decode mX0_hasDoorsOpen.2.1 67 = .ok (.iconst 0, 1) := by decide +kernel
theorem dX0_hasDoorsOpen_68 : decode mX0_hasDoorsOpen.2.1 68 = .ok (.ireturn, 1) := by decide +kernel
