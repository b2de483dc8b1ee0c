/-! decode rows -/
theorem dX5_init_0 : decode mX5_init.2.1 0 = .ok (.aload_n 0, 1) := by decide +kernel
theorem dX5_init_1 : decode mX5_init.2.1 1 = .ok (.invokespecial 1, 3) := by decide +kernel
theorem dX5_init_4 : decode mX5_init.2.1 4 = .ok (.aload_n 0, 1) := by decide +kernel
theorem dX5_init_5 : decode mX5_init.2.1 5 = .ok (.new 7, 3) := by decide +kernel
theorem dX5_init_8 : decode mX5_init.2.1 8 = .ok (.dup, 1) := by decide +kernel
theorem dX5_init_9 : decode mX5_init.2.1 9 = .ok (.invokespecial 9, 3) := by decide +kernel
theorem dX5_init_12 : decode mX5_init.2.1 12 = .ok (.putfield 10, 3) := by decide +kernel
theorem dX5_init_15 : decode mX5_init.2.1 15 = .ok (.aload_n 0, 1) := by decide +kernel
theorem dX5_init_16 : decode mX5_init.2.1 16 = .ok (.iconst 2, 1) := by decide +kernel
theorem dX5_init_17 : decode mX5_init.2.1 17 = .ok (.anewarray 16, 3) := by decide +kernel
theorem dX5_init_20 : decode mX5_init.2.1 20 = .ok (.putfield 18, 3) := by decide +kernel
theorem dX5_init_23 : decode mX5_init.2.1 23 = .ok (.aload_n 0, 1) := by decide +kernel
theorem dX5_init_24 : decode mX5_init.2.1 24 = .ok (.new 22, 3) := by decide +kernel
theorem dX5_init_27 : decode mX5_init.2.1 27 = .ok (.dup, 1) := by decide +kernel
theorem dX5_init_28 : decode mX5_init.2.1 28 = .ok (.invokespecial 24, 3) := by decide +kernel
theorem dX5_init_31 : decode mX5_init.2.1 31 = .ok (.putfield 25, 3) := by decide +kernel
theorem dX5_init_34 : decode mX5_init.2.1 34 = .ok (.aload_n 0, 1) := by decide +kernel
theorem dX5_init_35 : decode mX5_init.2.1 35 = .ok (.new 29, 3) := by decide +kernel
theorem dX5_init_38 : decode mX5_init.2.1 38 = .ok (.dup, 1) := by decide +kernel
theorem dX5_init_39 : decode mX5_init.2.1 39 = .ok (.invokespecial 31, 3) := by decide +kernel
theorem dX5_init_42 : decode mX5_init.2.1 42 = .ok (.putfield 32, 3) := by decide +kernel
theorem dX5_init_45 : decode mX5_init.2.1 45 = .ok (.aload_n 0, 1) := by decide +kernel
theorem dX5_init_46 : decode mX5_init.2.1 46 = .ok (.iconst 0, 1) := by decide +kernel
theorem dX5_init_47 : decode mX5_init.2.1 47 = .ok (.putfield 36, 3) := by decide +kernel
theorem dX5_init_50 : decode mX5_init.2.1 50 = .ok (.aload_n 0, 1) := by decide +kernel
theorem dX5_init_51 : decode mX5_init.2.1 51 = .ok (.bipush 60, 2) := by decide +kernel
theorem dX5_init_53 : decode mX5_init.2.1 53 = .ok (.putfield 40, 3) := by decide +kernel
theorem dX5_init_56 : decode mX5_init.2.1 56 = .ok (.aload_n 0, 1) := by decide +kernel
theorem dX5_init_57 : decode mX5_init.2.1 57 = .ok (.iconst 0, 1) := by decide +kernel
theorem dX5_init_58 : decode mX5_init.2.1 58 = .ok (.putfield 43, 3) := by decide +kernel
theorem dX5_init_61 : decode mX5_init.2.1 61 = .ok (.aload_n 0, 1) := by decide +kernel
theorem dX5_init_62 : decode mX5_init.2.1 62 = .ok (.iconst 0, 1) := by decide +kernel
theorem dX5_init_63 : decode mX5_init.2.1 63 = .ok (.putfield 46, 3) := by decide +kernel
theorem dX5_init_66 : decode mX5_init.2.1 66 = .ok (.aload_n 0, 1) := by decide +kernel
theorem dX5_init_67 : decode mX5_init.2.1 67 = .ok (.iconst 0, 1) := by decide +kernel
theorem dX5_init_68 : decode mX5_init.2.1 68 = .ok (.putfield 49, 3) := by decide +kernel
theorem dX5_init_71 : decode mX5_init.2.1 71 = .ok (.aload_n 0, 1) := by decide +kernel
theorem dX5_init_72 : decode mX5_init.2.1 72 = .ok (.iconst 0, 1) := by decide +kernel
theorem dX5_init_73 : decode mX5_init.2.1 73 = .ok (.putfield 52, 3) := by decide +kernel
theorem dX5_init_76 : decode mX5_init.2.1 76 = .ok (.iconst 0, 1) := by decide +kernel
theorem dX5_init_77 : decode mX5_init.2.1 77 = .ok (.istore_n 1, 1) := by decide +kernel
theorem dX5_init_78 : decode mX5_init.2.1 78 = .ok (.iload_n 1, 1) := by decide +kernel
theorem dX5_init_79 : decode mX5_init.2.1 79 = .ok (.iconst 2, 1) := by decide +kernel
theorem dX5_init_80 : decode mX5_init.2.1 80 = .ok (.if_icmp .ge 23, 3) := by decide +kernel
theorem dX5_init_83 : decode mX5_init.2.1 83 = .ok (.aload_n 0, 1) := by decide +kernel
theorem dX5_init_84 : decode mX5_init.2.1 84 = .ok (.getfield 18, 3) := by decide +kernel
theorem dX5_init_87 : decode mX5_init.2.1 87 = .ok (.iload_n 1, 1) := by decide +kernel
theorem dX5_init_88 : decode mX5_init.2.1 88 = .ok (.new 16, 3) := by decide +kernel
theorem dX5_init_91 : decode mX5_init.2.1 91 = .ok (.dup, 1) := by decide +kernel
theorem dX5_init_92 : decode mX5_init.2.1 92 = .ok (.iload_n 1, 1) := by decide +kernel
theorem dX5_init_93 : decode mX5_init.2.1 93 = .ok (.invokespecial 55, 3) := by decide +kernel
theorem dX5_init_96 : decode mX5_init.2.1 96 = .ok (.aastore, 1) := by decide +kernel
theorem dX5_init_97 : decode mX5_init.2.1 97 = .ok (.iinc 1 1, 3) := by decide +kernel
theorem dX5_init_100 : decode mX5_init.2.1 100 = .ok (.goto (-22), 3) := by decide +kernel
theorem dX5_init_103 : decode mX5_init.2.1 103 = .ok (.return_, 1) := by decide +kernel
theorem dX5_pulse_0 : decode mX5_pulse.2.1 0 = .ok (.iload_n 1, 1) := by decide +kernel
theorem dX5_pulse_1 : decode mX5_pulse.2.1 1 = .ok (.ifCond .lt 10, 3) := by decide +kernel
theorem dX5_pulse_4 : decode mX5_pulse.2.1 4 = .ok (.iload_n 1, 1) := by decide +kernel
theorem dX5_pulse_5 : decode mX5_pulse.2.1 5 = .ok (.sipush 600, 3) := by decide +kernel
theorem dX5_pulse_8 : decode mX5_pulse.2.1 8 = .ok (.if_icmp .le 13, 3) := by decide +kernel
theorem dX5_pulse_11 : decode mX5_pulse.2.1 11 = .ok (.new 58, 3) := by decide +kernel
theorem dX5_pulse_14 : decode mX5_pulse.2.1 14 = .ok (.dup, 1) := by decide +kernel
theorem dX5_pulse_15 : decode mX5_pulse.2.1 15 = .ok (.ldc 60, 2) := by decide +kernel
theorem dX5_pulse_17 : decode mX5_pulse.2.1 17 = .ok (.invokespecial 62, 3) := by decide +kernel
theorem dX5_pulse_20 : decode mX5_pulse.2.1 20 = .ok (.athrow, 1) := by decide +kernel
theorem dX5_pulse_21 : decode mX5_pulse.2.1 21 = .ok (.aload_n 0, 1) := by decide +kernel
theorem dX5_pulse_22 : decode mX5_pulse.2.1 22 = .ok (.invokevirtual 65, 3) := by decide +kernel
theorem dX5_pulse_25 : decode mX5_pulse.2.1 25 = .ok (.aload_n 0, 1) := by decide +kernel
theorem dX5_pulse_26 : decode mX5_pulse.2.1 26 = .ok (.iload_n 1, 1) := by decide +kernel
theorem dX5_pulse_27 : decode mX5_pulse.2.1 27 = .ok (.invokevirtual 68, 3) := by decide +kernel
theorem dX5_pulse_30 : decode mX5_pulse.2.1 30 = .ok (.istore_n 2, 1) := by decide +kernel
theorem dX5_pulse_31 : decode mX5_pulse.2.1 31 = .ok (.aload_n 0, 1) := by decide +kernel
theorem dX5_pulse_32 : decode mX5_pulse.2.1 32 = .ok (.dup, 1) := by decide +kernel
theorem dX5_pulse_33 : decode mX5_pulse.2.1 33 = .ok (.getfield 52, 3) := by decide +kernel
theorem dX5_pulse_36 : decode mX5_pulse.2.1 36 = .ok (.iload_n 2, 1) := by decide +kernel
theorem dX5_pulse_37 : decode mX5_pulse.2.1 37 = .ok (.iadd, 1) := by decide +kernel
theorem dX5_pulse_38 : decode mX5_pulse.2.1 38 = .ok (.putfield 52, 3) := by decide +kernel
theorem dX5_pulse_41 : decode mX5_pulse.2.1 41 = .ok (.iload_n 2, 1) := by decide +kernel
theorem dX5_pulse_42 : decode mX5_pulse.2.1 42 = .ok (.ireturn, 1) := by decide +kernel
theorem dX5_tick_0 : decode mX5_tick.2.1 0 = .ok (.iload_n 1, 1) := by decide +kernel
theorem dX5_tick_1 : decode mX5_tick.2.1 1 = .ok (.iconst 1, 1) := by decide +kernel
theorem dX5_tick_2 : decode mX5_tick.2.1 2 = .ok (.if_icmp .lt 9, 3) := by decide +kernel
theorem dX5_tick_5 : decode mX5_tick.2.1 5 = .ok (.iload_n 1, 1) := by decide +kernel
theorem dX5_tick_6 : decode mX5_tick.2.1 6 = .ok (.bipush 100, 2) := by decide +kernel
theorem dX5_tick_8 : decode mX5_tick.2.1 8 = .ok (.if_icmp .le 13, 3) := by decide +kernel
theorem dX5_tick_11 : decode mX5_tick.2.1 11 = .ok (.new 58, 3) := by decide +kernel
theorem dX5_tick_14 : decode mX5_tick.2.1 14 = .ok (.dup, 1) := by decide +kernel
theorem dX5_tick_15 : decode mX5_tick.2.1 15 = .ok (.ldc 72, 2) := by decide +kernel
theorem dX5_tick_17 : decode mX5_tick.2.1 17 = .ok (.invokespecial 62, 3) := by decide +kernel
theorem dX5_tick_20 : decode mX5_tick.2.1 20 = .ok (.athrow, 1) := by decide +kernel
theorem dX5_tick_21 : decode mX5_tick.2.1 21 = .ok (.iconst 0, 1) := by decide +kernel
theorem dX5_tick_22 : decode mX5_tick.2.1 22 = .ok (.istore_n 2, 1) := by decide +kernel
theorem dX5_tick_23 : decode mX5_tick.2.1 23 = .ok (.iload_n 2, 1) := by decide +kernel
theorem dX5_tick_24 : decode mX5_tick.2.1 24 = .ok (.iload_n 1, 1) := by decide +kernel
theorem dX5_tick_25 : decode mX5_tick.2.1 25 = .ok (.if_icmp .ge 13, 3) := by decide +kernel
theorem dX5_tick_28 : decode mX5_tick.2.1 28 = .ok (.aload_n 0, 1) := by decide +kernel
theorem dX5_tick_29 : decode mX5_tick.2.1 29 = .ok (.invokevirtual 74, 3) := by decide +kernel
theorem dX5_tick_32 : decode mX5_tick.2.1 32 = .ok (.iinc 2 1, 3) := by decide +kernel
theorem dX5_tick_35 : decode mX5_tick.2.1 35 = .ok (.goto (-12), 3) := by decide +kernel
theorem dX5_tick_38 : decode mX5_tick.2.1 38 = .ok (.aload_n 0, 1) := by decide +kernel
theorem dX5_tick_39 : decode mX5_tick.2.1 39 = .ok (.getfield 46, 3) := by decide +kernel
theorem dX5_tick_42 : decode mX5_tick.2.1 42 = .ok (.ireturn, 1) := by decide +kernel
theorem dX5_gauge_0 : decode mX5_gauge.2.1 0 = .ok (.iload_n 1, 1) := by decide +kernel
theorem dX5_gauge_1 : decode mX5_gauge.2.1 1 = .ok (.invokestatic 77, 3) := by decide +kernel
theorem dX5_gauge_4 : decode mX5_gauge.2.1 4 = .ok (.iload_n 2, 1) := by decide +kernel
theorem dX5_gauge_5 : decode mX5_gauge.2.1 5 = .ok (.ifCond .lt 21, 3) := by decide +kernel
theorem dX5_gauge_8 : decode mX5_gauge.2.1 8 = .ok (.iload_n 2, 1) := by decide +kernel
theorem dX5_gauge_9 : decode mX5_gauge.2.1 9 = .ok (.sipush 20000, 3) := by decide +kernel
theorem dX5_gauge_12 : decode mX5_gauge.2.1 12 = .ok (.if_icmp .gt 14, 3) := by decide +kernel
theorem dX5_gauge_15 : decode mX5_gauge.2.1 15 = .ok (.iload_n 3, 1) := by decide +kernel
theorem dX5_gauge_16 : decode mX5_gauge.2.1 16 = .ok (.ifCond .lt 10, 3) := by decide +kernel
theorem dX5_gauge_19 : decode mX5_gauge.2.1 19 = .ok (.iload_n 3, 1) := by decide +kernel
theorem dX5_gauge_20 : decode mX5_gauge.2.1 20 = .ok (.sipush 20000, 3) := by decide +kernel
theorem dX5_gauge_23 : decode mX5_gauge.2.1 23 = .ok (.if_icmp .le 13, 3) := by decide +kernel
theorem dX5_gauge_26 : decode mX5_gauge.2.1 26 = .ok (.new 58, 3) := by decide +kernel
theorem dX5_gauge_29 : decode mX5_gauge.2.1 29 = .ok (.dup, 1) := by decide +kernel
theorem dX5_gauge_30 : decode mX5_gauge.2.1 30 = .ok (.ldc 80, 2) := by decide +kernel
theorem dX5_gauge_32 : decode mX5_gauge.2.1 32 = .ok (.invokespecial 62, 3) := by decide +kernel
theorem dX5_gauge_35 : decode mX5_gauge.2.1 35 = .ok (.athrow, 1) := by decide +kernel
theorem dX5_gauge_36 : decode mX5_gauge.2.1 36 = .ok (.aload_n 0, 1) := by decide +kernel
theorem dX5_gauge_37 : decode mX5_gauge.2.1 37 = .ok (.getfield 18, 3) := by decide +kernel
theorem dX5_gauge_40 : decode mX5_gauge.2.1 40 = .ok (.iload_n 1, 1) := by decide +kernel
theorem dX5_gauge_41 : decode mX5_gauge.2.1 41 = .ok (.aaload, 1) := by decide +kernel
theorem dX5_gauge_42 : decode mX5_gauge.2.1 42 = .ok (.getfield 82, 3) := by decide +kernel
theorem dX5_gauge_45 : decode mX5_gauge.2.1 45 = .ok (.bipush 12, 2) := by decide +kernel
theorem dX5_gauge_47 : decode mX5_gauge.2.1 47 = .ok (.aaload, 1) := by decide +kernel
theorem dX5_gauge_48 : decode mX5_gauge.2.1 48 = .ok (.astore 4, 2) := by decide +kernel
theorem dX5_gauge_50 : decode mX5_gauge.2.1 50 = .ok (.aload 4, 2) := by decide +kernel
theorem dX5_gauge_52 : decode mX5_gauge.2.1 52 = .ok (.ifnull 11, 3) := by decide +kernel
theorem dX5_gauge_55 : decode mX5_gauge.2.1 55 = .ok (.aload 4, 2) := by decide +kernel
theorem dX5_gauge_57 : decode mX5_gauge.2.1 57 = .ok (.invokevirtual 86, 3) := by decide +kernel
theorem dX5_gauge_60 : decode mX5_gauge.2.1 60 = .ok (.ifCond .ne 5, 3) := by decide +kernel
theorem dX5_gauge_63 : decode mX5_gauge.2.1 63 = .ok (.iconst 0, 1) := by decide +kernel
theorem dX5_gauge_64 : decode mX5_gauge.2.1 64 = .ok (.ireturn, 1) := by decide +kernel
theorem dX5_gauge_65 : decode mX5_gauge.2.1 65 = .ok (.aload 4, 2) := by decide +kernel
theorem dX5_gauge_67 : decode mX5_gauge.2.1 67 = .ok (.iload_n 2, 1) := by decide +kernel
theorem dX5_gauge_68 : decode mX5_gauge.2.1 68 = .ok (.putfield 92, 3) := by decide +kernel
theorem dX5_gauge_71 : decode mX5_gauge.2.1 71 = .ok (.aload 4, 2) := by decide +kernel
theorem dX5_gauge_73 : decode mX5_gauge.2.1 73 = .ok (.iload_n 3, 1) := by decide +kernel
theorem dX5_gauge_74 : decode mX5_gauge.2.1 74 = .ok (.putfield 95, 3) := by decide +kernel
theorem dX5_gauge_77 : decode mX5_gauge.2.1 77 = .ok (.iconst 1, 1) := by decide +kernel
theorem dX5_gauge_78 : decode mX5_gauge.2.1 78 = .ok (.ireturn, 1) := by decide +kernel
theorem dX5_wind_0 : decode mX5_wind.2.1 0 = .ok (.iload_n 1, 1) := by decide +kernel
theorem dX5_wind_1 : decode mX5_wind.2.1 1 = .ok (.ifCond .lt 10, 3) := by decide +kernel
theorem dX5_wind_4 : decode mX5_wind.2.1 4 = .ok (.iload_n 1, 1) := by decide +kernel
theorem dX5_wind_5 : decode mX5_wind.2.1 5 = .ok (.sipush 1000, 3) := by decide +kernel
theorem dX5_wind_8 : decode mX5_wind.2.1 8 = .ok (.if_icmp .le 13, 3) := by decide +kernel
theorem dX5_wind_11 : decode mX5_wind.2.1 11 = .ok (.new 58, 3) := by decide +kernel
theorem dX5_wind_14 : decode mX5_wind.2.1 14 = .ok (.dup, 1) := by decide +kernel
theorem dX5_wind_15 : decode mX5_wind.2.1 15 = .ok (.ldc 98, 2) := by decide +kernel
theorem dX5_wind_17 : decode mX5_wind.2.1 17 = .ok (.invokespecial 62, 3) := by decide +kernel
theorem dX5_wind_20 : decode mX5_wind.2.1 20 = .ok (.athrow, 1) := by decide +kernel
theorem dX5_wind_21 : decode mX5_wind.2.1 21 = .ok (.aload_n 0, 1) := by decide +kernel
theorem dX5_wind_22 : decode mX5_wind.2.1 22 = .ok (.getfield 32, 3) := by decide +kernel
theorem dX5_wind_25 : decode mX5_wind.2.1 25 = .ok (.iload_n 1, 1) := by decide +kernel
theorem dX5_wind_26 : decode mX5_wind.2.1 26 = .ok (.invokevirtual 100, 3) := by decide +kernel
theorem dX5_wind_29 : decode mX5_wind.2.1 29 = .ok (.return_, 1) := by decide +kernel
theorem dX5_drive_0 : decode mX5_drive.2.1 0 = .ok (.iload_n 1, 1) := by decide +kernel
theorem dX5_drive_1 : decode mX5_drive.2.1 1 = .ok (.ifCond .lt 8, 3) := by decide +kernel
theorem dX5_drive_4 : decode mX5_drive.2.1 4 = .ok (.iload_n 1, 1) := by decide +kernel
theorem dX5_drive_5 : decode mX5_drive.2.1 5 = .ok (.iconst 5, 1) := by decide +kernel
theorem dX5_drive_6 : decode mX5_drive.2.1 6 = .ok (.if_icmp .le 13, 3) := by decide +kernel
theorem dX5_drive_9 : decode mX5_drive.2.1 9 = .ok (.new 58, 3) := by decide +kernel
theorem dX5_drive_12 : decode mX5_drive.2.1 12 = .ok (.dup, 1) := by decide +kernel
theorem dX5_drive_13 : decode mX5_drive.2.1 13 = .ok (.ldc 103, 2) := by decide +kernel
theorem dX5_drive_15 : decode mX5_drive.2.1 15 = .ok (.invokespecial 62, 3) := by decide +kernel
theorem dX5_drive_18 : decode mX5_drive.2.1 18 = .ok (.athrow, 1) := by decide +kernel
theorem dX5_drive_19 : decode mX5_drive.2.1 19 = .ok (.aload_n 0, 1) := by decide +kernel
theorem dX5_drive_20 : decode mX5_drive.2.1 20 = .ok (.getfield 36, 3) := by decide +kernel
theorem dX5_drive_23 : decode mX5_drive.2.1 23 = .ok (.ifCond .eq 5, 3) := by decide +kernel
theorem dX5_drive_26 : decode mX5_drive.2.1 26 = .ok (.iconst 0, 1) := by decide +kernel
theorem dX5_drive_27 : decode mX5_drive.2.1 27 = .ok (.ireturn, 1) := by decide +kernel
theorem dX5_drive_28 : decode mX5_drive.2.1 28 = .ok (.aload_n 0, 1) := by decide +kernel
theorem dX5_drive_29 : decode mX5_drive.2.1 29 = .ok (.iload_n 1, 1) := by decide +kernel
theorem dX5_drive_30 : decode mX5_drive.2.1 30 = .ok (.putfield 43, 3) := by decide +kernel
theorem dX5_drive_33 : decode mX5_drive.2.1 33 = .ok (.iconst 1, 1) := by decide +kernel
theorem dX5_drive_34 : decode mX5_drive.2.1 34 = .ok (.ireturn, 1) := by decide +kernel
theorem dX5_bring_0 : decode mX5_bring.2.1 0 = .ok (.iload_n 1, 1) := by decide +kernel
theorem dX5_bring_1 : decode mX5_bring.2.1 1 = .ok (.invokestatic 105, 3) := by decide +kernel
theorem dX5_bring_4 : decode mX5_bring.2.1 4 = .ok (.aload_n 0, 1) := by decide +kernel
theorem dX5_bring_5 : decode mX5_bring.2.1 5 = .ok (.getfield 10, 3) := by decide +kernel
theorem dX5_bring_8 : decode mX5_bring.2.1 8 = .ok (.getfield 108, 3) := by decide +kernel
theorem dX5_bring_11 : decode mX5_bring.2.1 11 = .ok (.iload_n 1, 1) := by decide +kernel
theorem dX5_bring_12 : decode mX5_bring.2.1 12 = .ok (.aaload, 1) := by decide +kernel
theorem dX5_bring_13 : decode mX5_bring.2.1 13 = .ok (.astore_n 2, 1) := by decide +kernel
theorem dX5_bring_14 : decode mX5_bring.2.1 14 = .ok (.aload_n 2, 1) := by decide +kernel
theorem dX5_bring_15 : decode mX5_bring.2.1 15 = .ok (.getfield 111, 3) := by decide +kernel
theorem dX5_bring_18 : decode mX5_bring.2.1 18 = .ok (.ifCond .ne 13, 3) := by decide +kernel
theorem dX5_bring_21 : decode mX5_bring.2.1 21 = .ok (.aload_n 0, 1) := by decide +kernel
theorem dX5_bring_22 : decode mX5_bring.2.1 22 = .ok (.getfield 25, 3) := by decide +kernel
theorem dX5_bring_25 : decode mX5_bring.2.1 25 = .ok (.invokevirtual 114, 3) := by decide +kernel
theorem dX5_bring_28 : decode mX5_bring.2.1 28 = .ok (.ifCond .ne 5, 3) := by decide +kernel
theorem dX5_bring_31 : decode mX5_bring.2.1 31 = .ok (.iconst 0, 1) := by decide +kernel
theorem dX5_bring_32 : decode mX5_bring.2.1 32 = .ok (.ireturn, 1) := by decide +kernel
theorem dX5_bring_33 : decode mX5_bring.2.1 33 = .ok (.aload_n 0, 1) := by decide +kernel
theorem dX5_bring_34 : decode mX5_bring.2.1 34 = .ok (.getfield 25, 3) := by decide +kernel
theorem dX5_bring_37 : decode mX5_bring.2.1 37 = .ok (.aload_n 2, 1) := by decide +kernel
theorem dX5_bring_38 : decode mX5_bring.2.1 38 = .ok (.invokevirtual 117, 3) := by decide +kernel
theorem dX5_bring_41 : decode mX5_bring.2.1 41 = .ok (.iconst 1, 1) := by decide +kernel
theorem dX5_bring_42 : decode mX5_bring.2.1 42 = .ok (.ireturn, 1) := by decide +kernel
theorem dX5_putOn_0 : decode mX5_putOn.2.1 0 = .ok (.iload_n 1, 1) := by decide +kernel
theorem dX5_putOn_1 : decode mX5_putOn.2.1 1 = .ok (.invokestatic 77, 3) := by decide +kernel
theorem dX5_putOn_4 : decode mX5_putOn.2.1 4 = .ok (.iload_n 2, 1) := by decide +kernel
theorem dX5_putOn_5 : decode mX5_putOn.2.1 5 = .ok (.invokestatic 105, 3) := by decide +kernel
theorem dX5_putOn_8 : decode mX5_putOn.2.1 8 = .ok (.aload_n 0, 1) := by decide +kernel
theorem dX5_putOn_9 : decode mX5_putOn.2.1 9 = .ok (.getfield 10, 3) := by decide +kernel
theorem dX5_putOn_12 : decode mX5_putOn.2.1 12 = .ok (.getfield 108, 3) := by decide +kernel
theorem dX5_putOn_15 : decode mX5_putOn.2.1 15 = .ok (.iload_n 2, 1) := by decide +kernel
theorem dX5_putOn_16 : decode mX5_putOn.2.1 16 = .ok (.aaload, 1) := by decide +kernel
theorem dX5_putOn_17 : decode mX5_putOn.2.1 17 = .ok (.astore_n 3, 1) := by decide +kernel
theorem dX5_putOn_18 : decode mX5_putOn.2.1 18 = .ok (.aload_n 0, 1) := by decide +kernel
theorem dX5_putOn_19 : decode mX5_putOn.2.1 19 = .ok (.getfield 18, 3) := by decide +kernel
theorem dX5_putOn_22 : decode mX5_putOn.2.1 22 = .ok (.iload_n 1, 1) := by decide +kernel
theorem dX5_putOn_23 : decode mX5_putOn.2.1 23 = .ok (.aaload, 1) := by decide +kernel
theorem dX5_putOn_24 : decode mX5_putOn.2.1 24 = .ok (.astore 4, 2) := by decide +kernel
theorem dX5_putOn_26 : decode mX5_putOn.2.1 26 = .ok (.aload_n 3, 1) := by decide +kernel
theorem dX5_putOn_27 : decode mX5_putOn.2.1 27 = .ok (.getfield 111, 3) := by decide +kernel
theorem dX5_putOn_30 : decode mX5_putOn.2.1 30 = .ok (.iconst 1, 1) := by decide +kernel
theorem dX5_putOn_31 : decode mX5_putOn.2.1 31 = .ok (.if_icmp .ne 12, 3) := by decide +kernel
theorem dX5_putOn_34 : decode mX5_putOn.2.1 34 = .ok (.aload 4, 2) := by decide +kernel
theorem dX5_putOn_36 : decode mX5_putOn.2.1 36 = .ok (.iconst 5, 1) := by decide +kernel
theorem dX5_putOn_37 : decode mX5_putOn.2.1 37 = .ok (.invokevirtual 121, 3) := by decide +kernel
theorem dX5_putOn_40 : decode mX5_putOn.2.1 40 = .ok (.ifCond .ne 5, 3) := by decide +kernel
theorem dX5_putOn_43 : decode mX5_putOn.2.1 43 = .ok (.iconst 0, 1) := by decide +kernel
theorem dX5_putOn_44 : decode mX5_putOn.2.1 44 = .ok (.ireturn, 1) := by decide +kernel
theorem dX5_putOn_45 : decode mX5_putOn.2.1 45 = .ok (.aload_n 0, 1) := by decide +kernel
theorem dX5_putOn_46 : decode mX5_putOn.2.1 46 = .ok (.getfield 10, 3) := by decide +kernel
theorem dX5_putOn_49 : decode mX5_putOn.2.1 49 = .ok (.iconst 2, 1) := by decide +kernel
theorem dX5_putOn_50 : decode mX5_putOn.2.1 50 = .ok (.invokevirtual 125, 3) := by decide +kernel
theorem dX5_putOn_53 : decode mX5_putOn.2.1 53 = .ok (.aload_n 0, 1) := by decide +kernel
theorem dX5_putOn_54 : decode mX5_putOn.2.1 54 = .ok (.getfield 10, 3) := by decide +kernel
theorem dX5_putOn_57 : decode mX5_putOn.2.1 57 = .ok (.iconst 3, 1) := by decide +kernel
theorem dX5_putOn_58 : decode mX5_putOn.2.1 58 = .ok (.invokevirtual 125, 3) := by decide +kernel
theorem dX5_putOn_61 : decode mX5_putOn.2.1 61 = .ok (.iadd, 1) := by decide +kernel
theorem dX5_putOn_62 : decode mX5_putOn.2.1 62 = .ok (.aload_n 0, 1) := by decide +kernel
theorem dX5_putOn_63 : decode mX5_putOn.2.1 63 = .ok (.getfield 40, 3) := by decide +kernel
theorem dX5_putOn_66 : decode mX5_putOn.2.1 66 = .ok (.if_icmp .lt 5, 3) := by decide +kernel
theorem dX5_putOn_69 : decode mX5_putOn.2.1 69 = .ok (.iconst 0, 1) := by decide +kernel
theorem dX5_putOn_70 : decode mX5_putOn.2.1 70 = .ok (.ireturn, 1) := by decide +kernel
theorem dX5_putOn_71 : decode mX5_putOn.2.1 71 = .ok (.aload_n 0, 1) := by decide +kernel
theorem dX5_putOn_72 : decode mX5_putOn.2.1 72 = .ok (.getfield 25, 3) := by decide +kernel
theorem dX5_putOn_75 : decode mX5_putOn.2.1 75 = .ok (.aload_n 3, 1) := by decide +kernel
theorem dX5_putOn_76 : decode mX5_putOn.2.1 76 = .ok (.invokevirtual 128, 3) := by decide +kernel
theorem dX5_putOn_79 : decode mX5_putOn.2.1 79 = .ok (.aload 4, 2) := by decide +kernel
theorem dX5_putOn_81 : decode mX5_putOn.2.1 81 = .ok (.aload_n 3, 1) := by decide +kernel
theorem dX5_putOn_82 : decode mX5_putOn.2.1 82 = .ok (.iconst 5, 1) := by decide +kernel
theorem dX5_putOn_83 : decode mX5_putOn.2.1 83 = .ok (.invokevirtual 131, 3) := by decide +kernel
theorem dX5_putOn_86 : decode mX5_putOn.2.1 86 = .ok (.iconst 1, 1) := by decide +kernel
theorem dX5_putOn_87 : decode mX5_putOn.2.1 87 = .ok (.ireturn, 1) := by decide +kernel
theorem dX5_takeOff_0 : decode mX5_takeOff.2.1 0 = .ok (.iload_n 1, 1) := by decide +kernel
theorem dX5_takeOff_1 : decode mX5_takeOff.2.1 1 = .ok (.invokestatic 77, 3) := by decide +kernel
theorem dX5_takeOff_4 : decode mX5_takeOff.2.1 4 = .ok (.iload_n 2, 1) := by decide +kernel
theorem dX5_takeOff_5 : decode mX5_takeOff.2.1 5 = .ok (.invokestatic 105, 3) := by decide +kernel
theorem dX5_takeOff_8 : decode mX5_takeOff.2.1 8 = .ok (.aload_n 0, 1) := by decide +kernel
theorem dX5_takeOff_9 : decode mX5_takeOff.2.1 9 = .ok (.getfield 10, 3) := by decide +kernel
theorem dX5_takeOff_12 : decode mX5_takeOff.2.1 12 = .ok (.getfield 108, 3) := by decide +kernel
theorem dX5_takeOff_15 : decode mX5_takeOff.2.1 15 = .ok (.iload_n 2, 1) := by decide +kernel
theorem dX5_takeOff_16 : decode mX5_takeOff.2.1 16 = .ok (.aaload, 1) := by decide +kernel
theorem dX5_takeOff_17 : decode mX5_takeOff.2.1 17 = .ok (.astore_n 3, 1) := by decide +kernel
theorem dX5_takeOff_18 : decode mX5_takeOff.2.1 18 = .ok (.aload_n 3, 1) := by decide +kernel
theorem dX5_takeOff_19 : decode mX5_takeOff.2.1 19 = .ok (.getfield 111, 3) := by decide +kernel
theorem dX5_takeOff_22 : decode mX5_takeOff.2.1 22 = .ok (.iconst 2, 1) := by decide +kernel
theorem dX5_takeOff_23 : decode mX5_takeOff.2.1 23 = .ok (.if_icmp .ne 11, 3) := by decide +kernel
theorem dX5_takeOff_26 : decode mX5_takeOff.2.1 26 = .ok (.aload_n 3, 1) := by decide +kernel
theorem dX5_takeOff_27 : decode mX5_takeOff.2.1 27 = .ok (.getfield 135, 3) := by decide +kernel
theorem dX5_takeOff_30 : decode mX5_takeOff.2.1 30 = .ok (.iload_n 1, 1) := by decide +kernel
theorem dX5_takeOff_31 : decode mX5_takeOff.2.1 31 = .ok (.if_icmp .eq 5, 3) := by decide +kernel
theorem dX5_takeOff_34 : decode mX5_takeOff.2.1 34 = .ok (.iconst 0, 1) := by decide +kernel
theorem dX5_takeOff_35 : decode mX5_takeOff.2.1 35 = .ok (.ireturn, 1) := by decide +kernel
theorem dX5_takeOff_36 : decode mX5_takeOff.2.1 36 = .ok (.aload_n 3, 1) := by decide +kernel
theorem dX5_takeOff_37 : decode mX5_takeOff.2.1 37 = .ok (.getfield 138, 3) := by decide +kernel
theorem dX5_takeOff_40 : decode mX5_takeOff.2.1 40 = .ok (.iconst 5, 1) := by decide +kernel
theorem dX5_takeOff_41 : decode mX5_takeOff.2.1 41 = .ok (.if_icmp .lt 22, 3) := by decide +kernel
theorem dX5_takeOff_44 : decode mX5_takeOff.2.1 44 = .ok (.aload_n 3, 1) := by decide +kernel
theorem dX5_takeOff_45 : decode mX5_takeOff.2.1 45 = .ok (.getfield 138, 3) := by decide +kernel
theorem dX5_takeOff_48 : decode mX5_takeOff.2.1 48 = .ok (.bipush 8, 2) := by decide +kernel
theorem dX5_takeOff_50 : decode mX5_takeOff.2.1 50 = .ok (.if_icmp .gt 13, 3) := by decide +kernel
theorem dX5_takeOff_53 : decode mX5_takeOff.2.1 53 = .ok (.aload_n 0, 1) := by decide +kernel
theorem dX5_takeOff_54 : decode mX5_takeOff.2.1 54 = .ok (.getfield 25, 3) := by decide +kernel
theorem dX5_takeOff_57 : decode mX5_takeOff.2.1 57 = .ok (.invokevirtual 114, 3) := by decide +kernel
theorem dX5_takeOff_60 : decode mX5_takeOff.2.1 60 = .ok (.ifCond .ne 5, 3) := by decide +kernel
theorem dX5_takeOff_63 : decode mX5_takeOff.2.1 63 = .ok (.iconst 0, 1) := by decide +kernel
theorem dX5_takeOff_64 : decode mX5_takeOff.2.1 64 = .ok (.ireturn, 1) := by decide +kernel
theorem dX5_takeOff_65 : decode mX5_takeOff.2.1 65 = .ok (.aload_n 0, 1) := by decide +kernel
theorem dX5_takeOff_66 : decode mX5_takeOff.2.1 66 = .ok (.getfield 18, 3) := by decide +kernel
theorem dX5_takeOff_69 : decode mX5_takeOff.2.1 69 = .ok (.iload_n 1, 1) := by decide +kernel
theorem dX5_takeOff_70 : decode mX5_takeOff.2.1 70 = .ok (.aaload, 1) := by decide +kernel
theorem dX5_takeOff_71 : decode mX5_takeOff.2.1 71 = .ok (.getfield 82, 3) := by decide +kernel
theorem dX5_takeOff_74 : decode mX5_takeOff.2.1 74 = .ok (.aload_n 3, 1) := by decide +kernel
theorem dX5_takeOff_75 : decode mX5_takeOff.2.1 75 = .ok (.getfield 138, 3) := by decide +kernel
theorem dX5_takeOff_78 : decode mX5_takeOff.2.1 78 = .ok (.aconst_null, 1) := by decide +kernel
theorem dX5_takeOff_79 : decode mX5_takeOff.2.1 79 = .ok (.aastore, 1) := by decide +kernel
theorem dX5_takeOff_80 : decode mX5_takeOff.2.1 80 = .ok (.aload_n 0, 1) := by decide +kernel
theorem dX5_takeOff_81 : decode mX5_takeOff.2.1 81 = .ok (.getfield 25, 3) := by decide +kernel
theorem dX5_takeOff_84 : decode mX5_takeOff.2.1 84 = .ok (.aload_n 3, 1) := by decide +kernel
theorem dX5_takeOff_85 : decode mX5_takeOff.2.1 85 = .ok (.invokevirtual 117, 3) := by decide +kernel
theorem dX5_takeOff_88 : decode mX5_takeOff.2.1 88 = .ok (.iconst 1, 1) := by decide +kernel
theorem dX5_takeOff_89 : decode mX5_takeOff.2.1 89 = .ok (.ireturn, 1) := by decide +kernel
theorem dX5_plan_0 : decode mX5_plan.2.1 0 = .ok (.iload_n 1, 1) := by decide +kernel
theorem dX5_plan_1 : decode mX5_plan.2.1 1 = .ok (.iconst 1, 1) := by decide +kernel
theorem dX5_plan_2 : decode mX5_plan.2.1 2 = .ok (.if_icmp .lt 10, 3) := by decide +kernel
theorem dX5_plan_5 : decode mX5_plan.2.1 5 = .ok (.iload_n 1, 1) := by decide +kernel
theorem dX5_plan_6 : decode mX5_plan.2.1 6 = .ok (.sipush 900, 3) := by decide +kernel
theorem dX5_plan_9 : decode mX5_plan.2.1 9 = .ok (.if_icmp .le 13, 3) := by decide +kernel
theorem dX5_plan_12 : decode mX5_plan.2.1 12 = .ok (.new 58, 3) := by decide +kernel
theorem dX5_plan_15 : decode mX5_plan.2.1 15 = .ok (.dup, 1) := by decide +kernel
theorem dX5_plan_16 : decode mX5_plan.2.1 16 = .ok (.ldc 141, 2) := by decide +kernel
theorem dX5_plan_18 : decode mX5_plan.2.1 18 = .ok (.invokespecial 62, 3) := by decide +kernel
theorem dX5_plan_21 : decode mX5_plan.2.1 21 = .ok (.athrow, 1) := by decide +kernel
theorem dX5_plan_22 : decode mX5_plan.2.1 22 = .ok (.aload_n 0, 1) := by decide +kernel
theorem dX5_plan_23 : decode mX5_plan.2.1 23 = .ok (.iload_n 1, 1) := by decide +kernel
theorem dX5_plan_24 : decode mX5_plan.2.1 24 = .ok (.bipush 15, 2) := by decide +kernel
theorem dX5_plan_26 : decode mX5_plan.2.1 26 = .ok (.iadd, 1) := by decide +kernel
theorem dX5_plan_27 : decode mX5_plan.2.1 27 = .ok (.iconst 1, 1) := by decide +kernel
theorem dX5_plan_28 : decode mX5_plan.2.1 28 = .ok (.isub, 1) := by decide +kernel
theorem dX5_plan_29 : decode mX5_plan.2.1 29 = .ok (.bipush 15, 2) := by decide +kernel
theorem dX5_plan_31 : decode mX5_plan.2.1 31 = .ok (.idiv, 1) := by decide +kernel
theorem dX5_plan_32 : decode mX5_plan.2.1 32 = .ok (.putfield 40, 3) := by decide +kernel
theorem dX5_plan_35 : decode mX5_plan.2.1 35 = .ok (.aload_n 0, 1) := by decide +kernel
theorem dX5_plan_36 : decode mX5_plan.2.1 36 = .ok (.getfield 40, 3) := by decide +kernel
theorem dX5_plan_39 : decode mX5_plan.2.1 39 = .ok (.ireturn, 1) := by decide +kernel
theorem dX5_release_0 : decode mX5_release.2.1 0 = .ok (.iload_n 1, 1) := by decide +kernel
theorem dX5_release_1 : decode mX5_release.2.1 1 = .ok (.ifCond .lt 8, 3) := by decide +kernel
theorem dX5_release_4 : decode mX5_release.2.1 4 = .ok (.iload_n 1, 1) := by decide +kernel
theorem dX5_release_5 : decode mX5_release.2.1 5 = .ok (.iconst 3, 1) := by decide +kernel
theorem dX5_release_6 : decode mX5_release.2.1 6 = .ok (.if_icmp .le 13, 3) := by decide +kernel
theorem dX5_release_9 : decode mX5_release.2.1 9 = .ok (.new 58, 3) := by decide +kernel
theorem dX5_release_12 : decode mX5_release.2.1 12 = .ok (.dup, 1) := by decide +kernel
theorem dX5_release_13 : decode mX5_release.2.1 13 = .ok (.ldc 143, 2) := by decide +kernel
theorem dX5_release_15 : decode mX5_release.2.1 15 = .ok (.invokespecial 62, 3) := by decide +kernel
theorem dX5_release_18 : decode mX5_release.2.1 18 = .ok (.athrow, 1) := by decide +kernel
theorem dX5_release_19 : decode mX5_release.2.1 19 = .ok (.iconst 1, 1) := by decide +kernel
theorem dX5_release_20 : decode mX5_release.2.1 20 = .ok (.iload_n 1, 1) := by decide +kernel
theorem dX5_release_21 : decode mX5_release.2.1 21 = .ok (.ishl, 1) := by decide +kernel
theorem dX5_release_22 : decode mX5_release.2.1 22 = .ok (.istore_n 2, 1) := by decide +kernel
theorem dX5_release_23 : decode mX5_release.2.1 23 = .ok (.aload_n 0, 1) := by decide +kernel
theorem dX5_release_24 : decode mX5_release.2.1 24 = .ok (.getfield 36, 3) := by decide +kernel
theorem dX5_release_27 : decode mX5_release.2.1 27 = .ok (.iload_n 2, 1) := by decide +kernel
theorem dX5_release_28 : decode mX5_release.2.1 28 = .ok (.iand, 1) := by decide +kernel
theorem dX5_release_29 : decode mX5_release.2.1 29 = .ok (.ifCond .eq 11, 3) := by decide +kernel
theorem dX5_release_32 : decode mX5_release.2.1 32 = .ok (.aload_n 0, 1) := by decide +kernel
theorem dX5_release_33 : decode mX5_release.2.1 33 = .ok (.iload_n 1, 1) := by decide +kernel
theorem dX5_release_34 : decode mX5_release.2.1 34 = .ok (.invokevirtual 145, 3) := by decide +kernel
theorem dX5_release_37 : decode mX5_release.2.1 37 = .ok (.ifCond .eq 5, 3) := by decide +kernel
theorem dX5_release_40 : decode mX5_release.2.1 40 = .ok (.iconst 0, 1) := by decide +kernel
theorem dX5_release_41 : decode mX5_release.2.1 41 = .ok (.ireturn, 1) := by decide +kernel
theorem dX5_release_42 : decode mX5_release.2.1 42 = .ok (.aload_n 0, 1) := by decide +kernel
theorem dX5_release_43 : decode mX5_release.2.1 43 = .ok (.dup, 1) := by decide +kernel
theorem dX5_release_44 : decode mX5_release.2.1 44 = .ok (.getfield 36, 3) := by decide +kernel
theorem dX5_release_47 : decode mX5_release.2.1 47 = .ok (.iload_n 2, 1) := by decide +kernel
theorem dX5_release_48 : decode mX5_release.2.1 48 = .ok (.iconst (-1), 1) := by decide +kernel
theorem dX5_release_49 : decode mX5_release.2.1 49 = .ok (.ixor, 1) := by decide +kernel
theorem dX5_release_50 : decode mX5_release.2.1 50 = .ok (.iand, 1) := by decide +kernel
theorem dX5_release_51 : decode mX5_release.2.1 51 = .ok (.putfield 36, 3) := by decide +kernel
theorem dX5_release_54 : decode mX5_release.2.1 54 = .ok (.iconst 1, 1) := by decide +kernel
theorem dX5_release_55 : decode mX5_release.2.1 55 = .ok (.ireturn, 1) := by decide +kernel
theorem dX5_locks_0 : decode mX5_locks.2.1 0 = .ok (.aload_n 0, 1) := by decide +kernel
theorem dX5_locks_1 : decode mX5_locks.2.1 1 = .ok (.getfield 36, 3) := by decide +kernel
theorem dX5_locks_4 : decode mX5_locks.2.1 4 = .ok (.ireturn, 1) := by decide +kernel
theorem dX5_where_0 : decode mX5_where.2.1 0 = .ok (.iload_n 1, 1) := by decide +kernel
theorem dX5_where_1 : decode mX5_where.2.1 1 = .ok (.invokestatic 105, 3) := by decide +kernel
theorem dX5_where_4 : decode mX5_where.2.1 4 = .ok (.aload_n 0, 1) := by decide +kernel
theorem dX5_where_5 : decode mX5_where.2.1 5 = .ok (.getfield 10, 3) := by decide +kernel
theorem dX5_where_8 : decode mX5_where.2.1 8 = .ok (.getfield 108, 3) := by decide +kernel
theorem dX5_where_11 : decode mX5_where.2.1 11 = .ok (.iload_n 1, 1) := by decide +kernel
theorem dX5_where_12 : decode mX5_where.2.1 12 = .ok (.aaload, 1) := by decide +kernel
theorem dX5_where_13 : decode mX5_where.2.1 13 = .ok (.astore_n 3, 1) := by decide +kernel
theorem dX5_where_14 : decode mX5_where.2.1 14 = .ok (.iload_n 2, 1) := by decide +kernel
theorem dX5_where_15 : decode mX5_where.2.1 15 = .ok (.tableswitch 94 0 7 #[45, 50, 56, 61, 66, 71, 84, 89], 45) := by decide +kernel
theorem dX5_where_60 : decode mX5_where.2.1 60 = .ok (.aload_n 3, 1) := by decide +kernel
theorem dX5_where_61 : decode mX5_where.2.1 61 = .ok (.getfield 111, 3) := by decide +kernel
theorem dX5_where_64 : decode mX5_where.2.1 64 = .ok (.ireturn, 1) := by decide +kernel
theorem dX5_where_65 : decode mX5_where.2.1 65 = .ok (.aload_n 0, 1) := by decide +kernel
theorem dX5_where_66 : decode mX5_where.2.1 66 = .ok (.aload_n 3, 1) := by decide +kernel
theorem dX5_where_67 : decode mX5_where.2.1 67 = .ok (.invokevirtual 148, 3) := by decide +kernel
theorem dX5_where_70 : decode mX5_where.2.1 70 = .ok (.ireturn, 1) := by decide +kernel
theorem dX5_where_71 : decode mX5_where.2.1 71 = .ok (.aload_n 3, 1) := by decide +kernel
theorem dX5_where_72 : decode mX5_where.2.1 72 = .ok (.getfield 135, 3) := by decide +kernel
theorem dX5_where_75 : decode mX5_where.2.1 75 = .ok (.ireturn, 1) := by decide +kernel
theorem dX5_where_76 : decode mX5_where.2.1 76 = .ok (.aload_n 3, 1) := by decide +kernel
theorem dX5_where_77 : decode mX5_where.2.1 77 = .ok (.getfield 152, 3) := by decide +kernel
theorem dX5_where_80 : decode mX5_where.2.1 80 = .ok (.ireturn, 1) := by decide +kernel
theorem dX5_where_81 : decode mX5_where.2.1 81 = .ok (.aload_n 3, 1) := by decide +kernel
theorem dX5_where_82 : decode mX5_where.2.1 82 = .ok (.getfield 155, 3) := by decide +kernel
theorem dX5_where_85 : decode mX5_where.2.1 85 = .ok (.ireturn, 1) := by decide +kernel
theorem dX5_where_86 : decode mX5_where.2.1 86 = .ok (.aload_n 3, 1) := by decide +kernel
theorem dX5_where_87 : decode mX5_where.2.1 87 = .ok (.invokevirtual 158, 3) := by decide +kernel
theorem dX5_where_90 : decode mX5_where.2.1 90 = .ok (.ifCond .eq 7, 3) := by decide +kernel
theorem dX5_where_93 : decode mX5_where.2.1 93 = .ok (.iconst 1, 1) := by decide +kernel
theorem dX5_where_94 : decode mX5_where.2.1 94 = .ok (.goto 4, 3) := by decide +kernel
theorem dX5_where_97 : decode mX5_where.2.1 97 = .ok (.iconst 0, 1) := by decide +kernel
theorem dX5_where_98 : decode mX5_where.2.1 98 = .ok (.ireturn, 1) := by decide +kernel
theorem dX5_where_99 : decode mX5_where.2.1 99 = .ok (.aload_n 3, 1) := by decide +kernel
theorem dX5_where_100 : decode mX5_where.2.1 100 = .ok (.getfield 161, 3) := by decide +kernel
theorem dX5_where_103 : decode mX5_where.2.1 103 = .ok (.ireturn, 1) := by decide +kernel
theorem dX5_where_104 : decode mX5_where.2.1 104 = .ok (.aload_n 3, 1) := by decide +kernel
theorem dX5_where_105 : decode mX5_where.2.1 105 = .ok (.getfield 164, 3) := by decide +kernel
theorem dX5_where_108 : decode mX5_where.2.1 108 = .ok (.ireturn, 1) := by decide +kernel
theorem dX5_where_109 : decode mX5_where.2.1 109 = .ok (.iconst (-1), 1) := by decide +kernel
theorem dX5_where_110 : decode mX5_where.2.1 110 = .ok (.ireturn, 1) := by decide +kernel
theorem dX5_gap_0 : decode mX5_gap.2.1 0 = .ok (.iload_n 1, 1) := by decide +kernel
theorem dX5_gap_1 : decode mX5_gap.2.1 1 = .ok (.invokestatic 105, 3) := by decide +kernel
theorem dX5_gap_4 : decode mX5_gap.2.1 4 = .ok (.aload_n 0, 1) := by decide +kernel
theorem dX5_gap_5 : decode mX5_gap.2.1 5 = .ok (.getfield 10, 3) := by decide +kernel
theorem dX5_gap_8 : decode mX5_gap.2.1 8 = .ok (.getfield 108, 3) := by decide +kernel
theorem dX5_gap_11 : decode mX5_gap.2.1 11 = .ok (.iload_n 1, 1) := by decide +kernel
theorem dX5_gap_12 : decode mX5_gap.2.1 12 = .ok (.aaload, 1) := by decide +kernel
theorem dX5_gap_13 : decode mX5_gap.2.1 13 = .ok (.astore_n 2, 1) := by decide +kernel
theorem dX5_gap_14 : decode mX5_gap.2.1 14 = .ok (.aload_n 2, 1) := by decide +kernel
theorem dX5_gap_15 : decode mX5_gap.2.1 15 = .ok (.getfield 111, 3) := by decide +kernel
theorem dX5_gap_18 : decode mX5_gap.2.1 18 = .ok (.iconst 3, 1) := by decide +kernel
theorem dX5_gap_19 : decode mX5_gap.2.1 19 = .ok (.if_icmp .ne 14, 3) := by decide +kernel
theorem dX5_gap_22 : decode mX5_gap.2.1 22 = .ok (.aload_n 0, 1) := by decide +kernel
theorem dX5_gap_23 : decode mX5_gap.2.1 23 = .ok (.getfield 10, 3) := by decide +kernel
theorem dX5_gap_26 : decode mX5_gap.2.1 26 = .ok (.aload_n 2, 1) := by decide +kernel
theorem dX5_gap_27 : decode mX5_gap.2.1 27 = .ok (.invokevirtual 167, 3) := by decide +kernel
theorem dX5_gap_30 : decode mX5_gap.2.1 30 = .ok (.goto 4, 3) := by decide +kernel
theorem dX5_gap_33 : decode mX5_gap.2.1 33 = .ok (.iconst (-1), 1) := by decide +kernel
theorem dX5_gap_34 : decode mX5_gap.2.1 34 = .ok (.ireturn, 1) := by decide +kernel
theorem dX5_sided_0 : decode mX5_sided.2.1 0 = .ok (.aload_n 0, 1) := by decide +kernel
theorem dX5_sided_1 : decode mX5_sided.2.1 1 = .ok (.getfield 25, 3) := by decide +kernel
theorem dX5_sided_4 : decode mX5_sided.2.1 4 = .ok (.iload_n 1, 1) := by decide +kernel
theorem dX5_sided_5 : decode mX5_sided.2.1 5 = .ok (.invokevirtual 170, 3) := by decide +kernel
theorem dX5_sided_8 : decode mX5_sided.2.1 8 = .ok (.astore_n 2, 1) := by decide +kernel
theorem dX5_sided_9 : decode mX5_sided.2.1 9 = .ok (.aload_n 2, 1) := by decide +kernel
theorem dX5_sided_10 : decode mX5_sided.2.1 10 = .ok (.ifnonnull 7, 3) := by decide +kernel
theorem dX5_sided_13 : decode mX5_sided.2.1 13 = .ok (.iconst (-1), 1) := by decide +kernel
theorem dX5_sided_14 : decode mX5_sided.2.1 14 = .ok (.goto 7, 3) := by decide +kernel
theorem dX5_sided_17 : decode mX5_sided.2.1 17 = .ok (.aload_n 2, 1) := by decide +kernel
theorem dX5_sided_18 : decode mX5_sided.2.1 18 = .ok (.getfield 174, 3) := by decide +kernel
theorem dX5_sided_21 : decode mX5_sided.2.1 21 = .ok (.ireturn, 1) := by decide +kernel
theorem dX5_state_0 : decode mX5_state.2.1 0 = .ok (.iload_n 1, 1) := by decide +kernel
theorem dX5_state_1 : decode mX5_state.2.1 1 = .ok (.tableswitch 122 0 9 #[55, 60, 65, 70, 78, 86, 95, 104, 112, 117], 55) := by decide +kernel
theorem dX5_state_56 : decode mX5_state.2.1 56 = .ok (.aload_n 0, 1) := by decide +kernel
theorem dX5_state_57 : decode mX5_state.2.1 57 = .ok (.getfield 46, 3) := by decide +kernel
theorem dX5_state_60 : decode mX5_state.2.1 60 = .ok (.ireturn, 1) := by decide +kernel
theorem dX5_state_61 : decode mX5_state.2.1 61 = .ok (.aload_n 0, 1) := by decide +kernel
theorem dX5_state_62 : decode mX5_state.2.1 62 = .ok (.getfield 43, 3) := by decide +kernel
theorem dX5_state_65 : decode mX5_state.2.1 65 = .ok (.ireturn, 1) := by decide +kernel
theorem dX5_state_66 : decode mX5_state.2.1 66 = .ok (.aload_n 0, 1) := by decide +kernel
theorem dX5_state_67 : decode mX5_state.2.1 67 = .ok (.getfield 40, 3) := by decide +kernel
theorem dX5_state_70 : decode mX5_state.2.1 70 = .ok (.ireturn, 1) := by decide +kernel
theorem dX5_state_71 : decode mX5_state.2.1 71 = .ok (.aload_n 0, 1) := by decide +kernel
theorem dX5_state_72 : decode mX5_state.2.1 72 = .ok (.getfield 32, 3) := by decide +kernel
theorem dX5_state_75 : decode mX5_state.2.1 75 = .ok (.getfield 177, 3) := by decide +kernel
theorem dX5_state_78 : decode mX5_state.2.1 78 = .ok (.ireturn, 1) := by decide +kernel
theorem dX5_state_79 : decode mX5_state.2.1 79 = .ok (.aload_n 0, 1) := by decide +kernel
theorem dX5_state_80 : decode mX5_state.2.1 80 = .ok (.getfield 25, 3) := by decide +kernel
theorem dX5_state_83 : decode mX5_state.2.1 83 = .ok (.getfield 180, 3) := by decide +kernel
theorem dX5_state_86 : decode mX5_state.2.1 86 = .ok (.ireturn, 1) := by decide +kernel
theorem dX5_state_87 : decode mX5_state.2.1 87 = .ok (.aload_n 0, 1) := by decide +kernel
theorem dX5_state_88 : decode mX5_state.2.1 88 = .ok (.getfield 10, 3) := by decide +kernel
theorem dX5_state_91 : decode mX5_state.2.1 91 = .ok (.iconst 3, 1) := by decide +kernel
theorem dX5_state_92 : decode mX5_state.2.1 92 = .ok (.invokevirtual 125, 3) := by decide +kernel
theorem dX5_state_95 : decode mX5_state.2.1 95 = .ok (.ireturn, 1) := by decide +kernel
theorem dX5_state_96 : decode mX5_state.2.1 96 = .ok (.aload_n 0, 1) := by decide +kernel
theorem dX5_state_97 : decode mX5_state.2.1 97 = .ok (.getfield 10, 3) := by decide +kernel
theorem dX5_state_100 : decode mX5_state.2.1 100 = .ok (.iconst 2, 1) := by decide +kernel
theorem dX5_state_101 : decode mX5_state.2.1 101 = .ok (.invokevirtual 125, 3) := by decide +kernel
theorem dX5_state_104 : decode mX5_state.2.1 104 = .ok (.ireturn, 1) := by decide +kernel
theorem dX5_state_105 : decode mX5_state.2.1 105 = .ok (.aload_n 0, 1) := by decide +kernel
theorem dX5_state_106 : decode mX5_state.2.1 106 = .ok (.getfield 10, 3) := by decide +kernel
theorem dX5_state_109 : decode mX5_state.2.1 109 = .ok (.invokevirtual 183, 3) := by decide +kernel
theorem dX5_state_112 : decode mX5_state.2.1 112 = .ok (.ireturn, 1) := by decide +kernel
theorem dX5_state_113 : decode mX5_state.2.1 113 = .ok (.aload_n 0, 1) := by decide +kernel
theorem dX5_state_114 : decode mX5_state.2.1 114 = .ok (.getfield 49, 3) := by decide +kernel
theorem dX5_state_117 : decode mX5_state.2.1 117 = .ok (.ireturn, 1) := by decide +kernel
theorem dX5_state_118 : decode mX5_state.2.1 118 = .ok (.aload_n 0, 1) := by decide +kernel
theorem dX5_state_119 : decode mX5_state.2.1 119 = .ok (.getfield 52, 3) := by decide +kernel
theorem dX5_state_122 : decode mX5_state.2.1 122 = .ok (.ireturn, 1) := by decide +kernel
theorem dX5_state_123 : decode mX5_state.2.1 123 = .ok (.iconst (-1), 1) := by decide +kernel
theorem dX5_state_124 : decode mX5_state.2.1 124 = .ok (.ireturn, 1) := by decide +kernel
