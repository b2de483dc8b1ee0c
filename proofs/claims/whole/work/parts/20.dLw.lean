/-! decode rows -/
theorem dL_pulse_0 : decode mL_pulse.2.1 0 = .ok (.aload_n 2, 1) := by decide +kernel
theorem dL_pulse_1 : decode mL_pulse.2.1 1 = .ok (.iconst 0, 1) := by decide +kernel
theorem dL_pulse_2 : decode mL_pulse.2.1 2 = .ok (.aload_n 0, 1) := by decide +kernel
theorem dL_pulse_3 : decode mL_pulse.2.1 3 = .ok (.iload_n 1, 1) := by decide +kernel
theorem dL_pulse_4 : decode mL_pulse.2.1 4 = .ok (.invokevirtual 7, 3) := by decide +kernel
theorem dL_pulse_7 : decode mL_pulse.2.1 7 = .ok (.i2l, 1) := by decide +kernel
theorem dL_pulse_8 : decode mL_pulse.2.1 8 = .ok (.lastore, 1) := by decide +kernel
theorem dL_pulse_9 : decode mL_pulse.2.1 9 = .ok (.goto 6, 3) := by decide +kernel
theorem dL_pulse_12 : decode mL_pulse.2.1 12 = .ok (.astore_n 3, 1) := by decide +kernel
theorem dL_pulse_13 : decode mL_pulse.2.1 13 = .ok (.iconst 1, 1) := by decide +kernel
theorem dL_pulse_14 : decode mL_pulse.2.1 14 = .ok (.ireturn, 1) := by decide +kernel
theorem dL_pulse_15 : decode mL_pulse.2.1 15 = .ok (.iconst 0, 1) := by decide +kernel
theorem dL_pulse_16 : decode mL_pulse.2.1 16 = .ok (.ireturn, 1) := by decide +kernel
theorem dL_tick_0 : decode mL_tick.2.1 0 = .ok (.aload_n 2, 1) := by decide +kernel
theorem dL_tick_1 : decode mL_tick.2.1 1 = .ok (.iconst 0, 1) := by decide +kernel
theorem dL_tick_2 : decode mL_tick.2.1 2 = .ok (.aload_n 0, 1) := by decide +kernel
theorem dL_tick_3 : decode mL_tick.2.1 3 = .ok (.iload_n 1, 1) := by decide +kernel
theorem dL_tick_4 : decode mL_tick.2.1 4 = .ok (.invokevirtual 15, 3) := by decide +kernel
theorem dL_tick_7 : decode mL_tick.2.1 7 = .ok (.i2l, 1) := by decide +kernel
theorem dL_tick_8 : decode mL_tick.2.1 8 = .ok (.lastore, 1) := by decide +kernel
theorem dL_tick_9 : decode mL_tick.2.1 9 = .ok (.goto 6, 3) := by decide +kernel
theorem dL_tick_12 : decode mL_tick.2.1 12 = .ok (.astore_n 3, 1) := by decide +kernel
theorem dL_tick_13 : decode mL_tick.2.1 13 = .ok (.iconst 1, 1) := by decide +kernel
theorem dL_tick_14 : decode mL_tick.2.1 14 = .ok (.ireturn, 1) := by decide +kernel
theorem dL_tick_15 : decode mL_tick.2.1 15 = .ok (.iconst 0, 1) := by decide +kernel
theorem dL_tick_16 : decode mL_tick.2.1 16 = .ok (.ireturn, 1) := by decide +kernel
theorem dL_gauge_0 : decode mL_gauge.2.1 0 = .ok (.aload 4, 2) := by decide +kernel
theorem dL_gauge_2 : decode mL_gauge.2.1 2 = .ok (.iconst 0, 1) := by decide +kernel
theorem dL_gauge_3 : decode mL_gauge.2.1 3 = .ok (.aload_n 0, 1) := by decide +kernel
theorem dL_gauge_4 : decode mL_gauge.2.1 4 = .ok (.iload_n 1, 1) := by decide +kernel
theorem dL_gauge_5 : decode mL_gauge.2.1 5 = .ok (.iload_n 2, 1) := by decide +kernel
theorem dL_gauge_6 : decode mL_gauge.2.1 6 = .ok (.iload_n 3, 1) := by decide +kernel
theorem dL_gauge_7 : decode mL_gauge.2.1 7 = .ok (.invokevirtual 18, 3) := by decide +kernel
theorem dL_gauge_10 : decode mL_gauge.2.1 10 = .ok (.ifCond .eq 7, 3) := by decide +kernel
theorem dL_gauge_13 : decode mL_gauge.2.1 13 = .ok (.lconst 1, 1) := by decide +kernel
theorem dL_gauge_14 : decode mL_gauge.2.1 14 = .ok (.goto 4, 3) := by decide +kernel
theorem dL_gauge_17 : decode mL_gauge.2.1 17 = .ok (.lconst 0, 1) := by decide +kernel
theorem dL_gauge_18 : decode mL_gauge.2.1 18 = .ok (.lastore, 1) := by decide +kernel
theorem dL_gauge_19 : decode mL_gauge.2.1 19 = .ok (.goto 7, 3) := by decide +kernel
theorem dL_gauge_22 : decode mL_gauge.2.1 22 = .ok (.astore 5, 2) := by decide +kernel
theorem dL_gauge_24 : decode mL_gauge.2.1 24 = .ok (.iconst 1, 1) := by decide +kernel
theorem dL_gauge_25 : decode mL_gauge.2.1 25 = .ok (.ireturn, 1) := by decide +kernel
theorem dL_gauge_26 : decode mL_gauge.2.1 26 = .ok (.iconst 0, 1) := by decide +kernel
theorem dL_gauge_27 : decode mL_gauge.2.1 27 = .ok (.ireturn, 1) := by decide +kernel
theorem dL_wind_0 : decode mL_wind.2.1 0 = .ok (.aload_n 0, 1) := by decide +kernel
theorem dL_wind_1 : decode mL_wind.2.1 1 = .ok (.iload_n 1, 1) := by decide +kernel
theorem dL_wind_2 : decode mL_wind.2.1 2 = .ok (.invokevirtual 22, 3) := by decide +kernel
theorem dL_wind_5 : decode mL_wind.2.1 5 = .ok (.goto 6, 3) := by decide +kernel
theorem dL_wind_8 : decode mL_wind.2.1 8 = .ok (.astore_n 2, 1) := by decide +kernel
theorem dL_wind_9 : decode mL_wind.2.1 9 = .ok (.iconst 1, 1) := by decide +kernel
theorem dL_wind_10 : decode mL_wind.2.1 10 = .ok (.ireturn, 1) := by decide +kernel
theorem dL_wind_11 : decode mL_wind.2.1 11 = .ok (.iconst 0, 1) := by decide +kernel
theorem dL_wind_12 : decode mL_wind.2.1 12 = .ok (.ireturn, 1) := by decide +kernel
theorem dL_drive_0 : decode mL_drive.2.1 0 = .ok (.aload_n 2, 1) := by decide +kernel
theorem dL_drive_1 : decode mL_drive.2.1 1 = .ok (.iconst 0, 1) := by decide +kernel
theorem dL_drive_2 : decode mL_drive.2.1 2 = .ok (.aload_n 0, 1) := by decide +kernel
theorem dL_drive_3 : decode mL_drive.2.1 3 = .ok (.iload_n 1, 1) := by decide +kernel
theorem dL_drive_4 : decode mL_drive.2.1 4 = .ok (.invokevirtual 26, 3) := by decide +kernel
theorem dL_drive_7 : decode mL_drive.2.1 7 = .ok (.ifCond .eq 7, 3) := by decide +kernel
theorem dL_drive_10 : decode mL_drive.2.1 10 = .ok (.lconst 1, 1) := by decide +kernel
theorem dL_drive_11 : decode mL_drive.2.1 11 = .ok (.goto 4, 3) := by decide +kernel
theorem dL_drive_14 : decode mL_drive.2.1 14 = .ok (.lconst 0, 1) := by decide +kernel
theorem dL_drive_15 : decode mL_drive.2.1 15 = .ok (.lastore, 1) := by decide +kernel
theorem dL_drive_16 : decode mL_drive.2.1 16 = .ok (.goto 6, 3) := by decide +kernel
theorem dL_drive_19 : decode mL_drive.2.1 19 = .ok (.astore_n 3, 1) := by decide +kernel
theorem dL_drive_20 : decode mL_drive.2.1 20 = .ok (.iconst 1, 1) := by decide +kernel
theorem dL_drive_21 : decode mL_drive.2.1 21 = .ok (.ireturn, 1) := by decide +kernel
theorem dL_drive_22 : decode mL_drive.2.1 22 = .ok (.iconst 0, 1) := by decide +kernel
theorem dL_drive_23 : decode mL_drive.2.1 23 = .ok (.ireturn, 1) := by decide +kernel
theorem dL_bring_0 : decode mL_bring.2.1 0 = .ok (.aload_n 2, 1) := by decide +kernel
theorem dL_bring_1 : decode mL_bring.2.1 1 = .ok (.iconst 0, 1) := by decide +kernel
theorem dL_bring_2 : decode mL_bring.2.1 2 = .ok (.aload_n 0, 1) := by decide +kernel
theorem dL_bring_3 : decode mL_bring.2.1 3 = .ok (.iload_n 1, 1) := by decide +kernel
theorem dL_bring_4 : decode mL_bring.2.1 4 = .ok (.invokevirtual 30, 3) := by decide +kernel
theorem dL_bring_7 : decode mL_bring.2.1 7 = .ok (.ifCond .eq 7, 3) := by decide +kernel
theorem dL_bring_10 : decode mL_bring.2.1 10 = .ok (.lconst 1, 1) := by decide +kernel
theorem dL_bring_11 : decode mL_bring.2.1 11 = .ok (.goto 4, 3) := by decide +kernel
theorem dL_bring_14 : decode mL_bring.2.1 14 = .ok (.lconst 0, 1) := by decide +kernel
theorem dL_bring_15 : decode mL_bring.2.1 15 = .ok (.lastore, 1) := by decide +kernel
theorem dL_bring_16 : decode mL_bring.2.1 16 = .ok (.goto 6, 3) := by decide +kernel
theorem dL_bring_19 : decode mL_bring.2.1 19 = .ok (.astore_n 3, 1) := by decide +kernel
theorem dL_bring_20 : decode mL_bring.2.1 20 = .ok (.iconst 1, 1) := by decide +kernel
theorem dL_bring_21 : decode mL_bring.2.1 21 = .ok (.ireturn, 1) := by decide +kernel
theorem dL_bring_22 : decode mL_bring.2.1 22 = .ok (.iconst 0, 1) := by decide +kernel
theorem dL_bring_23 : decode mL_bring.2.1 23 = .ok (.ireturn, 1) := by decide +kernel
theorem dL_putOn_0 : decode mL_putOn.2.1 0 = .ok (.aload_n 3, 1) := by decide +kernel
theorem dL_putOn_1 : decode mL_putOn.2.1 1 = .ok (.iconst 0, 1) := by decide +kernel
theorem dL_putOn_2 : decode mL_putOn.2.1 2 = .ok (.aload_n 0, 1) := by decide +kernel
theorem dL_putOn_3 : decode mL_putOn.2.1 3 = .ok (.iload_n 1, 1) := by decide +kernel
theorem dL_putOn_4 : decode mL_putOn.2.1 4 = .ok (.iload_n 2, 1) := by decide +kernel
theorem dL_putOn_5 : decode mL_putOn.2.1 5 = .ok (.invokevirtual 33, 3) := by decide +kernel
theorem dL_putOn_8 : decode mL_putOn.2.1 8 = .ok (.ifCond .eq 7, 3) := by decide +kernel
theorem dL_putOn_11 : decode mL_putOn.2.1 11 = .ok (.lconst 1, 1) := by decide +kernel
theorem dL_putOn_12 : decode mL_putOn.2.1 12 = .ok (.goto 4, 3) := by decide +kernel
theorem dL_putOn_15 : decode mL_putOn.2.1 15 = .ok (.lconst 0, 1) := by decide +kernel
theorem dL_putOn_16 : decode mL_putOn.2.1 16 = .ok (.lastore, 1) := by decide +kernel
theorem dL_putOn_17 : decode mL_putOn.2.1 17 = .ok (.goto 7, 3) := by decide +kernel
theorem dL_putOn_20 : decode mL_putOn.2.1 20 = .ok (.astore 4, 2) := by decide +kernel
theorem dL_putOn_22 : decode mL_putOn.2.1 22 = .ok (.iconst 1, 1) := by decide +kernel
theorem dL_putOn_23 : decode mL_putOn.2.1 23 = .ok (.ireturn, 1) := by decide +kernel
theorem dL_putOn_24 : decode mL_putOn.2.1 24 = .ok (.iconst 0, 1) := by decide +kernel
theorem dL_putOn_25 : decode mL_putOn.2.1 25 = .ok (.ireturn, 1) := by decide +kernel
theorem dL_takeOff_0 : decode mL_takeOff.2.1 0 = .ok (.aload_n 3, 1) := by decide +kernel
theorem dL_takeOff_1 : decode mL_takeOff.2.1 1 = .ok (.iconst 0, 1) := by decide +kernel
theorem dL_takeOff_2 : decode mL_takeOff.2.1 2 = .ok (.aload_n 0, 1) := by decide +kernel
theorem dL_takeOff_3 : decode mL_takeOff.2.1 3 = .ok (.iload_n 1, 1) := by decide +kernel
theorem dL_takeOff_4 : decode mL_takeOff.2.1 4 = .ok (.iload_n 2, 1) := by decide +kernel
theorem dL_takeOff_5 : decode mL_takeOff.2.1 5 = .ok (.invokevirtual 37, 3) := by decide +kernel
theorem dL_takeOff_8 : decode mL_takeOff.2.1 8 = .ok (.ifCond .eq 7, 3) := by decide +kernel
theorem dL_takeOff_11 : decode mL_takeOff.2.1 11 = .ok (.lconst 1, 1) := by decide +kernel
theorem dL_takeOff_12 : decode mL_takeOff.2.1 12 = .ok (.goto 4, 3) := by decide +kernel
theorem dL_takeOff_15 : decode mL_takeOff.2.1 15 = .ok (.lconst 0, 1) := by decide +kernel
theorem dL_takeOff_16 : decode mL_takeOff.2.1 16 = .ok (.lastore, 1) := by decide +kernel
theorem dL_takeOff_17 : decode mL_takeOff.2.1 17 = .ok (.goto 7, 3) := by decide +kernel
theorem dL_takeOff_20 : decode mL_takeOff.2.1 20 = .ok (.astore 4, 2) := by decide +kernel
theorem dL_takeOff_22 : decode mL_takeOff.2.1 22 = .ok (.iconst 1, 1) := by decide +kernel
theorem dL_takeOff_23 : decode mL_takeOff.2.1 23 = .ok (.ireturn, 1) := by decide +kernel
theorem dL_takeOff_24 : decode mL_takeOff.2.1 24 = .ok (.iconst 0, 1) := by decide +kernel
theorem dL_takeOff_25 : decode mL_takeOff.2.1 25 = .ok (.ireturn, 1) := by decide +kernel
theorem dL_plan_0 : decode mL_plan.2.1 0 = .ok (.aload_n 2, 1) := by decide +kernel
theorem dL_plan_1 : decode mL_plan.2.1 1 = .ok (.iconst 0, 1) := by decide +kernel
theorem dL_plan_2 : decode mL_plan.2.1 2 = .ok (.aload_n 0, 1) := by decide +kernel
theorem dL_plan_3 : decode mL_plan.2.1 3 = .ok (.iload_n 1, 1) := by decide +kernel
theorem dL_plan_4 : decode mL_plan.2.1 4 = .ok (.invokevirtual 40, 3) := by decide +kernel
theorem dL_plan_7 : decode mL_plan.2.1 7 = .ok (.i2l, 1) := by decide +kernel
theorem dL_plan_8 : decode mL_plan.2.1 8 = .ok (.lastore, 1) := by decide +kernel
theorem dL_plan_9 : decode mL_plan.2.1 9 = .ok (.goto 6, 3) := by decide +kernel
theorem dL_plan_12 : decode mL_plan.2.1 12 = .ok (.astore_n 3, 1) := by decide +kernel
theorem dL_plan_13 : decode mL_plan.2.1 13 = .ok (.iconst 1, 1) := by decide +kernel
theorem dL_plan_14 : decode mL_plan.2.1 14 = .ok (.ireturn, 1) := by decide +kernel
theorem dL_plan_15 : decode mL_plan.2.1 15 = .ok (.iconst 0, 1) := by decide +kernel
theorem dL_plan_16 : decode mL_plan.2.1 16 = .ok (.ireturn, 1) := by decide +kernel
theorem dL_release_0 : decode mL_release.2.1 0 = .ok (.aload_n 2, 1) := by decide +kernel
theorem dL_release_1 : decode mL_release.2.1 1 = .ok (.iconst 0, 1) := by decide +kernel
theorem dL_release_2 : decode mL_release.2.1 2 = .ok (.aload_n 0, 1) := by decide +kernel
theorem dL_release_3 : decode mL_release.2.1 3 = .ok (.iload_n 1, 1) := by decide +kernel
theorem dL_release_4 : decode mL_release.2.1 4 = .ok (.invokevirtual 43, 3) := by decide +kernel
theorem dL_release_7 : decode mL_release.2.1 7 = .ok (.ifCond .eq 7, 3) := by decide +kernel
theorem dL_release_10 : decode mL_release.2.1 10 = .ok (.lconst 1, 1) := by decide +kernel
theorem dL_release_11 : decode mL_release.2.1 11 = .ok (.goto 4, 3) := by decide +kernel
theorem dL_release_14 : decode mL_release.2.1 14 = .ok (.lconst 0, 1) := by decide +kernel
theorem dL_release_15 : decode mL_release.2.1 15 = .ok (.lastore, 1) := by decide +kernel
theorem dL_release_16 : decode mL_release.2.1 16 = .ok (.goto 6, 3) := by decide +kernel
theorem dL_release_19 : decode mL_release.2.1 19 = .ok (.astore_n 3, 1) := by decide +kernel
theorem dL_release_20 : decode mL_release.2.1 20 = .ok (.iconst 1, 1) := by decide +kernel
theorem dL_release_21 : decode mL_release.2.1 21 = .ok (.ireturn, 1) := by decide +kernel
theorem dL_release_22 : decode mL_release.2.1 22 = .ok (.iconst 0, 1) := by decide +kernel
theorem dL_release_23 : decode mL_release.2.1 23 = .ok (.ireturn, 1) := by decide +kernel
theorem dL_where_0 : decode mL_where.2.1 0 = .ok (.aload_n 3, 1) := by decide +kernel
theorem dL_where_1 : decode mL_where.2.1 1 = .ok (.iconst 0, 1) := by decide +kernel
theorem dL_where_2 : decode mL_where.2.1 2 = .ok (.aload_n 0, 1) := by decide +kernel
theorem dL_where_3 : decode mL_where.2.1 3 = .ok (.iload_n 1, 1) := by decide +kernel
theorem dL_where_4 : decode mL_where.2.1 4 = .ok (.iload_n 2, 1) := by decide +kernel
theorem dL_where_5 : decode mL_where.2.1 5 = .ok (.invokevirtual 46, 3) := by decide +kernel
theorem dL_where_8 : decode mL_where.2.1 8 = .ok (.i2l, 1) := by decide +kernel
theorem dL_where_9 : decode mL_where.2.1 9 = .ok (.lastore, 1) := by decide +kernel
theorem dL_where_10 : decode mL_where.2.1 10 = .ok (.goto 7, 3) := by decide +kernel
theorem dL_where_13 : decode mL_where.2.1 13 = .ok (.astore 4, 2) := by decide +kernel
theorem dL_where_15 : decode mL_where.2.1 15 = .ok (.iconst 1, 1) := by decide +kernel
theorem dL_where_16 : decode mL_where.2.1 16 = .ok (.ireturn, 1) := by decide +kernel
theorem dL_where_17 : decode mL_where.2.1 17 = .ok (.iconst 0, 1) := by decide +kernel
theorem dL_where_18 : decode mL_where.2.1 18 = .ok (.ireturn, 1) := by decide +kernel
theorem dL_gap_0 : decode mL_gap.2.1 0 = .ok (.aload_n 2, 1) := by decide +kernel
theorem dL_gap_1 : decode mL_gap.2.1 1 = .ok (.iconst 0, 1) := by decide +kernel
theorem dL_gap_2 : decode mL_gap.2.1 2 = .ok (.aload_n 0, 1) := by decide +kernel
theorem dL_gap_3 : decode mL_gap.2.1 3 = .ok (.iload_n 1, 1) := by decide +kernel
theorem dL_gap_4 : decode mL_gap.2.1 4 = .ok (.invokevirtual 50, 3) := by decide +kernel
theorem dL_gap_7 : decode mL_gap.2.1 7 = .ok (.i2l, 1) := by decide +kernel
theorem dL_gap_8 : decode mL_gap.2.1 8 = .ok (.lastore, 1) := by decide +kernel
theorem dL_gap_9 : decode mL_gap.2.1 9 = .ok (.goto 6, 3) := by decide +kernel
theorem dL_gap_12 : decode mL_gap.2.1 12 = .ok (.astore_n 3, 1) := by decide +kernel
theorem dL_gap_13 : decode mL_gap.2.1 13 = .ok (.iconst 1, 1) := by decide +kernel
theorem dL_gap_14 : decode mL_gap.2.1 14 = .ok (.ireturn, 1) := by decide +kernel
theorem dL_gap_15 : decode mL_gap.2.1 15 = .ok (.iconst 0, 1) := by decide +kernel
theorem dL_gap_16 : decode mL_gap.2.1 16 = .ok (.ireturn, 1) := by decide +kernel
