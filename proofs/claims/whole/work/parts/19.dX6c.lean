/-! decode rows -/
theorem dX6_drive_0 : decode mX6_drive.2.1 0 = .ok (.aload_n 0, 1) := by decide +kernel
theorem dX6_drive_1 : decode mX6_drive.2.1 1 = .ok (.iload_n 1, 1) := by decide +kernel
theorem dX6_drive_2 : decode mX6_drive.2.1 2 = .ok (.iconst 0, 1) := by decide +kernel
theorem dX6_drive_3 : decode mX6_drive.2.1 3 = .ok (.iconst 5, 1) := by decide +kernel
theorem dX6_drive_4 : decode mX6_drive.2.1 4 = .ok (.invokestatic 50, 3) := by decide +kernel
theorem dX6_drive_7 : decode mX6_drive.2.1 7 = .ok (.ifCond .ne 7, 3) := by decide +kernel
theorem dX6_drive_10 : decode mX6_drive.2.1 10 = .ok (.iconst 1, 1) := by decide +kernel
theorem dX6_drive_11 : decode mX6_drive.2.1 11 = .ok (.goto 4, 3) := by decide +kernel
theorem dX6_drive_14 : decode mX6_drive.2.1 14 = .ok (.iconst 0, 1) := by decide +kernel
theorem dX6_drive_15 : decode mX6_drive.2.1 15 = .ok (.invokevirtual 62, 3) := by decide +kernel
theorem dX6_drive_18 : decode mX6_drive.2.1 18 = .ok (.ifCond .ne 10, 3) := by decide +kernel
theorem dX6_drive_21 : decode mX6_drive.2.1 21 = .ok (.aload_n 0, 1) := by decide +kernel
theorem dX6_drive_22 : decode mX6_drive.2.1 22 = .ok (.getfield 73, 3) := by decide +kernel
theorem dX6_drive_25 : decode mX6_drive.2.1 25 = .ok (.ifCond .eq 5, 3) := by decide +kernel
theorem dX6_drive_28 : decode mX6_drive.2.1 28 = .ok (.iconst 0, 1) := by decide +kernel
theorem dX6_drive_29 : decode mX6_drive.2.1 29 = .ok (.ireturn, 1) := by decide +kernel
theorem dX6_drive_30 : decode mX6_drive.2.1 30 = .ok (.aload_n 0, 1) := by decide +kernel
theorem dX6_drive_31 : decode mX6_drive.2.1 31 = .ok (.iload_n 1, 1) := by decide +kernel
theorem dX6_drive_32 : decode mX6_drive.2.1 32 = .ok (.putfield 111, 3) := by decide +kernel
theorem dX6_drive_35 : decode mX6_drive.2.1 35 = .ok (.iconst 1, 1) := by decide +kernel
theorem dX6_drive_36 : decode mX6_drive.2.1 36 = .ok (.ireturn, 1) := by decide +kernel
theorem dX6_bring_0 : decode mX6_bring.2.1 0 = .ok (.aload_n 0, 1) := by decide +kernel
theorem dX6_bring_1 : decode mX6_bring.2.1 1 = .ok (.iload_n 1, 1) := by decide +kernel
theorem dX6_bring_2 : decode mX6_bring.2.1 2 = .ok (.invokestatic 126, 3) := by decide +kernel
theorem dX6_bring_5 : decode mX6_bring.2.1 5 = .ok (.ifCond .ne 7, 3) := by decide +kernel
theorem dX6_bring_8 : decode mX6_bring.2.1 8 = .ok (.iconst 1, 1) := by decide +kernel
theorem dX6_bring_9 : decode mX6_bring.2.1 9 = .ok (.goto 4, 3) := by decide +kernel
theorem dX6_bring_12 : decode mX6_bring.2.1 12 = .ok (.iconst 0, 1) := by decide +kernel
theorem dX6_bring_13 : decode mX6_bring.2.1 13 = .ok (.invokevirtual 62, 3) := by decide +kernel
theorem dX6_bring_16 : decode mX6_bring.2.1 16 = .ok (.ifCond .ne 21, 3) := by decide +kernel
theorem dX6_bring_19 : decode mX6_bring.2.1 19 = .ok (.aload_n 0, 1) := by decide +kernel
theorem dX6_bring_20 : decode mX6_bring.2.1 20 = .ok (.getfield 7, 3) := by decide +kernel
theorem dX6_bring_23 : decode mX6_bring.2.1 23 = .ok (.iload_n 1, 1) := by decide +kernel
theorem dX6_bring_24 : decode mX6_bring.2.1 24 = .ok (.iaload, 1) := by decide +kernel
theorem dX6_bring_25 : decode mX6_bring.2.1 25 = .ok (.ifCond .ne 12, 3) := by decide +kernel
theorem dX6_bring_28 : decode mX6_bring.2.1 28 = .ok (.aload_n 0, 1) := by decide +kernel
theorem dX6_bring_29 : decode mX6_bring.2.1 29 = .ok (.getfield 79, 3) := by decide +kernel
theorem dX6_bring_32 : decode mX6_bring.2.1 32 = .ok (.bipush 20, 2) := by decide +kernel
theorem dX6_bring_34 : decode mX6_bring.2.1 34 = .ok (.if_icmp .ne 5, 3) := by decide +kernel
theorem dX6_bring_37 : decode mX6_bring.2.1 37 = .ok (.iconst 0, 1) := by decide +kernel
theorem dX6_bring_38 : decode mX6_bring.2.1 38 = .ok (.ireturn, 1) := by decide +kernel
theorem dX6_bring_39 : decode mX6_bring.2.1 39 = .ok (.aload_n 0, 1) := by decide +kernel
theorem dX6_bring_40 : decode mX6_bring.2.1 40 = .ok (.iload_n 1, 1) := by decide +kernel
theorem dX6_bring_41 : decode mX6_bring.2.1 41 = .ok (.invokevirtual 89, 3) := by decide +kernel
theorem dX6_bring_44 : decode mX6_bring.2.1 44 = .ok (.iconst 1, 1) := by decide +kernel
theorem dX6_bring_45 : decode mX6_bring.2.1 45 = .ok (.ireturn, 1) := by decide +kernel
theorem dX6_putOn_0 : decode mX6_putOn.2.1 0 = .ok (.aload_n 0, 1) := by decide +kernel
theorem dX6_putOn_1 : decode mX6_putOn.2.1 1 = .ok (.iload_n 1, 1) := by decide +kernel
theorem dX6_putOn_2 : decode mX6_putOn.2.1 2 = .ok (.invokestatic 123, 3) := by decide +kernel
theorem dX6_putOn_5 : decode mX6_putOn.2.1 5 = .ok (.ifCond .eq 10, 3) := by decide +kernel
theorem dX6_putOn_8 : decode mX6_putOn.2.1 8 = .ok (.iload_n 2, 1) := by decide +kernel
theorem dX6_putOn_9 : decode mX6_putOn.2.1 9 = .ok (.invokestatic 126, 3) := by decide +kernel
theorem dX6_putOn_12 : decode mX6_putOn.2.1 12 = .ok (.ifCond .ne 7, 3) := by decide +kernel
theorem dX6_putOn_15 : decode mX6_putOn.2.1 15 = .ok (.iconst 1, 1) := by decide +kernel
theorem dX6_putOn_16 : decode mX6_putOn.2.1 16 = .ok (.goto 4, 3) := by decide +kernel
theorem dX6_putOn_19 : decode mX6_putOn.2.1 19 = .ok (.iconst 0, 1) := by decide +kernel
theorem dX6_putOn_20 : decode mX6_putOn.2.1 20 = .ok (.invokevirtual 62, 3) := by decide +kernel
theorem dX6_putOn_23 : decode mX6_putOn.2.1 23 = .ok (.ifCond .ne 31, 3) := by decide +kernel
theorem dX6_putOn_26 : decode mX6_putOn.2.1 26 = .ok (.aload_n 0, 1) := by decide +kernel
theorem dX6_putOn_27 : decode mX6_putOn.2.1 27 = .ok (.getfield 7, 3) := by decide +kernel
theorem dX6_putOn_30 : decode mX6_putOn.2.1 30 = .ok (.iload_n 2, 1) := by decide +kernel
theorem dX6_putOn_31 : decode mX6_putOn.2.1 31 = .ok (.iaload, 1) := by decide +kernel
theorem dX6_putOn_32 : decode mX6_putOn.2.1 32 = .ok (.iconst 1, 1) := by decide +kernel
theorem dX6_putOn_33 : decode mX6_putOn.2.1 33 = .ok (.if_icmp .ne 21, 3) := by decide +kernel
theorem dX6_putOn_36 : decode mX6_putOn.2.1 36 = .ok (.aload_n 0, 1) := by decide +kernel
theorem dX6_putOn_37 : decode mX6_putOn.2.1 37 = .ok (.iconst 2, 1) := by decide +kernel
theorem dX6_putOn_38 : decode mX6_putOn.2.1 38 = .ok (.invokevirtual 129, 3) := by decide +kernel
theorem dX6_putOn_41 : decode mX6_putOn.2.1 41 = .ok (.aload_n 0, 1) := by decide +kernel
theorem dX6_putOn_42 : decode mX6_putOn.2.1 42 = .ok (.iconst 3, 1) := by decide +kernel
theorem dX6_putOn_43 : decode mX6_putOn.2.1 43 = .ok (.invokevirtual 129, 3) := by decide +kernel
theorem dX6_putOn_46 : decode mX6_putOn.2.1 46 = .ok (.iadd, 1) := by decide +kernel
theorem dX6_putOn_47 : decode mX6_putOn.2.1 47 = .ok (.aload_n 0, 1) := by decide +kernel
theorem dX6_putOn_48 : decode mX6_putOn.2.1 48 = .ok (.getfield 43, 3) := by decide +kernel
theorem dX6_putOn_51 : decode mX6_putOn.2.1 51 = .ok (.if_icmp .lt 5, 3) := by decide +kernel
theorem dX6_putOn_54 : decode mX6_putOn.2.1 54 = .ok (.iconst 0, 1) := by decide +kernel
theorem dX6_putOn_55 : decode mX6_putOn.2.1 55 = .ok (.ireturn, 1) := by decide +kernel
theorem dX6_putOn_56 : decode mX6_putOn.2.1 56 = .ok (.iconst 1, 1) := by decide +kernel
theorem dX6_putOn_57 : decode mX6_putOn.2.1 57 = .ok (.istore_n 3, 1) := by decide +kernel
theorem dX6_putOn_58 : decode mX6_putOn.2.1 58 = .ok (.iload_n 3, 1) := by decide +kernel
theorem dX6_putOn_59 : decode mX6_putOn.2.1 59 = .ok (.bipush 6, 2) := by decide +kernel
theorem dX6_putOn_61 : decode mX6_putOn.2.1 61 = .ok (.if_icmp .ge 20, 3) := by decide +kernel
theorem dX6_putOn_64 : decode mX6_putOn.2.1 64 = .ok (.aload_n 0, 1) := by decide +kernel
theorem dX6_putOn_65 : decode mX6_putOn.2.1 65 = .ok (.iload_n 1, 1) := by decide +kernel
theorem dX6_putOn_66 : decode mX6_putOn.2.1 66 = .ok (.iload_n 3, 1) := by decide +kernel
theorem dX6_putOn_67 : decode mX6_putOn.2.1 67 = .ok (.invokevirtual 54, 3) := by decide +kernel
theorem dX6_putOn_70 : decode mX6_putOn.2.1 70 = .ok (.ifCond .lt 5, 3) := by decide +kernel
theorem dX6_putOn_73 : decode mX6_putOn.2.1 73 = .ok (.iconst 0, 1) := by decide +kernel
theorem dX6_putOn_74 : decode mX6_putOn.2.1 74 = .ok (.ireturn, 1) := by decide +kernel
theorem dX6_putOn_75 : decode mX6_putOn.2.1 75 = .ok (.iinc 3 1, 3) := by decide +kernel
theorem dX6_putOn_78 : decode mX6_putOn.2.1 78 = .ok (.goto (-20), 3) := by decide +kernel
theorem dX6_putOn_81 : decode mX6_putOn.2.1 81 = .ok (.aload_n 0, 1) := by decide +kernel
theorem dX6_putOn_82 : decode mX6_putOn.2.1 82 = .ok (.iload_n 2, 1) := by decide +kernel
theorem dX6_putOn_83 : decode mX6_putOn.2.1 83 = .ok (.invokevirtual 132, 3) := by decide +kernel
theorem dX6_putOn_86 : decode mX6_putOn.2.1 86 = .ok (.aload_n 0, 1) := by decide +kernel
theorem dX6_putOn_87 : decode mX6_putOn.2.1 87 = .ok (.iload_n 2, 1) := by decide +kernel
theorem dX6_putOn_88 : decode mX6_putOn.2.1 88 = .ok (.iload_n 1, 1) := by decide +kernel
theorem dX6_putOn_89 : decode mX6_putOn.2.1 89 = .ok (.iconst 5, 1) := by decide +kernel
theorem dX6_putOn_90 : decode mX6_putOn.2.1 90 = .ok (.invokevirtual 58, 3) := by decide +kernel
theorem dX6_putOn_93 : decode mX6_putOn.2.1 93 = .ok (.iconst 1, 1) := by decide +kernel
theorem dX6_putOn_94 : decode mX6_putOn.2.1 94 = .ok (.ireturn, 1) := by decide +kernel
theorem dX6_takeOff_0 : decode mX6_takeOff.2.1 0 = .ok (.aload_n 0, 1) := by decide +kernel
theorem dX6_takeOff_1 : decode mX6_takeOff.2.1 1 = .ok (.iload_n 1, 1) := by decide +kernel
theorem dX6_takeOff_2 : decode mX6_takeOff.2.1 2 = .ok (.invokestatic 123, 3) := by decide +kernel
theorem dX6_takeOff_5 : decode mX6_takeOff.2.1 5 = .ok (.ifCond .eq 10, 3) := by decide +kernel
theorem dX6_takeOff_8 : decode mX6_takeOff.2.1 8 = .ok (.iload_n 2, 1) := by decide +kernel
theorem dX6_takeOff_9 : decode mX6_takeOff.2.1 9 = .ok (.invokestatic 126, 3) := by decide +kernel
theorem dX6_takeOff_12 : decode mX6_takeOff.2.1 12 = .ok (.ifCond .ne 7, 3) := by decide +kernel
theorem dX6_takeOff_15 : decode mX6_takeOff.2.1 15 = .ok (.iconst 1, 1) := by decide +kernel
theorem dX6_takeOff_16 : decode mX6_takeOff.2.1 16 = .ok (.goto 4, 3) := by decide +kernel
theorem dX6_takeOff_19 : decode mX6_takeOff.2.1 19 = .ok (.iconst 0, 1) := by decide +kernel
theorem dX6_takeOff_20 : decode mX6_takeOff.2.1 20 = .ok (.invokevirtual 62, 3) := by decide +kernel
theorem dX6_takeOff_23 : decode mX6_takeOff.2.1 23 = .ok (.ifCond .ne 47, 3) := by decide +kernel
theorem dX6_takeOff_26 : decode mX6_takeOff.2.1 26 = .ok (.aload_n 0, 1) := by decide +kernel
theorem dX6_takeOff_27 : decode mX6_takeOff.2.1 27 = .ok (.getfield 7, 3) := by decide +kernel
theorem dX6_takeOff_30 : decode mX6_takeOff.2.1 30 = .ok (.iload_n 2, 1) := by decide +kernel
theorem dX6_takeOff_31 : decode mX6_takeOff.2.1 31 = .ok (.iaload, 1) := by decide +kernel
theorem dX6_takeOff_32 : decode mX6_takeOff.2.1 32 = .ok (.iconst 2, 1) := by decide +kernel
theorem dX6_takeOff_33 : decode mX6_takeOff.2.1 33 = .ok (.if_icmp .ne 37, 3) := by decide +kernel
theorem dX6_takeOff_36 : decode mX6_takeOff.2.1 36 = .ok (.aload_n 0, 1) := by decide +kernel
theorem dX6_takeOff_37 : decode mX6_takeOff.2.1 37 = .ok (.getfield 16, 3) := by decide +kernel
theorem dX6_takeOff_40 : decode mX6_takeOff.2.1 40 = .ok (.iload_n 2, 1) := by decide +kernel
theorem dX6_takeOff_41 : decode mX6_takeOff.2.1 41 = .ok (.iaload, 1) := by decide +kernel
theorem dX6_takeOff_42 : decode mX6_takeOff.2.1 42 = .ok (.iload_n 1, 1) := by decide +kernel
theorem dX6_takeOff_43 : decode mX6_takeOff.2.1 43 = .ok (.if_icmp .ne 27, 3) := by decide +kernel
theorem dX6_takeOff_46 : decode mX6_takeOff.2.1 46 = .ok (.aload_n 0, 1) := by decide +kernel
theorem dX6_takeOff_47 : decode mX6_takeOff.2.1 47 = .ok (.getfield 13, 3) := by decide +kernel
theorem dX6_takeOff_50 : decode mX6_takeOff.2.1 50 = .ok (.iload_n 2, 1) := by decide +kernel
theorem dX6_takeOff_51 : decode mX6_takeOff.2.1 51 = .ok (.iaload, 1) := by decide +kernel
theorem dX6_takeOff_52 : decode mX6_takeOff.2.1 52 = .ok (.iconst 5, 1) := by decide +kernel
theorem dX6_takeOff_53 : decode mX6_takeOff.2.1 53 = .ok (.bipush 8, 2) := by decide +kernel
theorem dX6_takeOff_55 : decode mX6_takeOff.2.1 55 = .ok (.invokestatic 50, 3) := by decide +kernel
theorem dX6_takeOff_58 : decode mX6_takeOff.2.1 58 = .ok (.ifCond .eq 12, 3) := by decide +kernel
theorem dX6_takeOff_61 : decode mX6_takeOff.2.1 61 = .ok (.aload_n 0, 1) := by decide +kernel
theorem dX6_takeOff_62 : decode mX6_takeOff.2.1 62 = .ok (.getfield 79, 3) := by decide +kernel
theorem dX6_takeOff_65 : decode mX6_takeOff.2.1 65 = .ok (.bipush 20, 2) := by decide +kernel
theorem dX6_takeOff_67 : decode mX6_takeOff.2.1 67 = .ok (.if_icmp .ne 5, 3) := by decide +kernel
theorem dX6_takeOff_70 : decode mX6_takeOff.2.1 70 = .ok (.iconst 0, 1) := by decide +kernel
theorem dX6_takeOff_71 : decode mX6_takeOff.2.1 71 = .ok (.ireturn, 1) := by decide +kernel
theorem dX6_takeOff_72 : decode mX6_takeOff.2.1 72 = .ok (.aload_n 0, 1) := by decide +kernel
theorem dX6_takeOff_73 : decode mX6_takeOff.2.1 73 = .ok (.iload_n 2, 1) := by decide +kernel
theorem dX6_takeOff_74 : decode mX6_takeOff.2.1 74 = .ok (.invokevirtual 89, 3) := by decide +kernel
theorem dX6_takeOff_77 : decode mX6_takeOff.2.1 77 = .ok (.iconst 1, 1) := by decide +kernel
theorem dX6_takeOff_78 : decode mX6_takeOff.2.1 78 = .ok (.ireturn, 1) := by decide +kernel
theorem dX6_plan_0 : decode mX6_plan.2.1 0 = .ok (.aload_n 0, 1) := by decide +kernel
theorem dX6_plan_1 : decode mX6_plan.2.1 1 = .ok (.iload_n 1, 1) := by decide +kernel
theorem dX6_plan_2 : decode mX6_plan.2.1 2 = .ok (.iconst 1, 1) := by decide +kernel
theorem dX6_plan_3 : decode mX6_plan.2.1 3 = .ok (.sipush 900, 3) := by decide +kernel
theorem dX6_plan_6 : decode mX6_plan.2.1 6 = .ok (.invokestatic 50, 3) := by decide +kernel
theorem dX6_plan_9 : decode mX6_plan.2.1 9 = .ok (.ifCond .ne 7, 3) := by decide +kernel
theorem dX6_plan_12 : decode mX6_plan.2.1 12 = .ok (.iconst 1, 1) := by decide +kernel
theorem dX6_plan_13 : decode mX6_plan.2.1 13 = .ok (.goto 4, 3) := by decide +kernel
theorem dX6_plan_16 : decode mX6_plan.2.1 16 = .ok (.iconst 0, 1) := by decide +kernel
theorem dX6_plan_17 : decode mX6_plan.2.1 17 = .ok (.invokevirtual 62, 3) := by decide +kernel
theorem dX6_plan_20 : decode mX6_plan.2.1 20 = .ok (.ifCond .eq 5, 3) := by decide +kernel
theorem dX6_plan_23 : decode mX6_plan.2.1 23 = .ok (.iconst 0, 1) := by decide +kernel
theorem dX6_plan_24 : decode mX6_plan.2.1 24 = .ok (.ireturn, 1) := by decide +kernel
theorem dX6_plan_25 : decode mX6_plan.2.1 25 = .ok (.aload_n 0, 1) := by decide +kernel
theorem dX6_plan_26 : decode mX6_plan.2.1 26 = .ok (.iconst 1, 1) := by decide +kernel
theorem dX6_plan_27 : decode mX6_plan.2.1 27 = .ok (.putfield 43, 3) := by decide +kernel
theorem dX6_plan_30 : decode mX6_plan.2.1 30 = .ok (.bipush 15, 2) := by decide +kernel
theorem dX6_plan_32 : decode mX6_plan.2.1 32 = .ok (.aload_n 0, 1) := by decide +kernel
theorem dX6_plan_33 : decode mX6_plan.2.1 33 = .ok (.getfield 43, 3) := by decide +kernel
theorem dX6_plan_36 : decode mX6_plan.2.1 36 = .ok (.imul, 1) := by decide +kernel
theorem dX6_plan_37 : decode mX6_plan.2.1 37 = .ok (.iload_n 1, 1) := by decide +kernel
theorem dX6_plan_38 : decode mX6_plan.2.1 38 = .ok (.if_icmp .ge 16, 3) := by decide +kernel
theorem dX6_plan_41 : decode mX6_plan.2.1 41 = .ok (.aload_n 0, 1) := by decide +kernel
theorem dX6_plan_42 : decode mX6_plan.2.1 42 = .ok (.dup, 1) := by decide +kernel
theorem dX6_plan_43 : decode mX6_plan.2.1 43 = .ok (.getfield 43, 3) := by decide +kernel
theorem dX6_plan_46 : decode mX6_plan.2.1 46 = .ok (.iconst 1, 1) := by decide +kernel
theorem dX6_plan_47 : decode mX6_plan.2.1 47 = .ok (.iadd, 1) := by decide +kernel
theorem dX6_plan_48 : decode mX6_plan.2.1 48 = .ok (.putfield 43, 3) := by decide +kernel
theorem dX6_plan_51 : decode mX6_plan.2.1 51 = .ok (.goto (-21), 3) := by decide +kernel
theorem dX6_plan_54 : decode mX6_plan.2.1 54 = .ok (.aload_n 0, 1) := by decide +kernel
theorem dX6_plan_55 : decode mX6_plan.2.1 55 = .ok (.getfield 43, 3) := by decide +kernel
theorem dX6_plan_58 : decode mX6_plan.2.1 58 = .ok (.ireturn, 1) := by decide +kernel
theorem dX6_release_0 : decode mX6_release.2.1 0 = .ok (.aload_n 0, 1) := by decide +kernel
theorem dX6_release_1 : decode mX6_release.2.1 1 = .ok (.iload_n 1, 1) := by decide +kernel
theorem dX6_release_2 : decode mX6_release.2.1 2 = .ok (.iconst 0, 1) := by decide +kernel
theorem dX6_release_3 : decode mX6_release.2.1 3 = .ok (.iconst 3, 1) := by decide +kernel
theorem dX6_release_4 : decode mX6_release.2.1 4 = .ok (.invokestatic 50, 3) := by decide +kernel
theorem dX6_release_7 : decode mX6_release.2.1 7 = .ok (.ifCond .ne 7, 3) := by decide +kernel
theorem dX6_release_10 : decode mX6_release.2.1 10 = .ok (.iconst 1, 1) := by decide +kernel
theorem dX6_release_11 : decode mX6_release.2.1 11 = .ok (.goto 4, 3) := by decide +kernel
theorem dX6_release_14 : decode mX6_release.2.1 14 = .ok (.iconst 0, 1) := by decide +kernel
theorem dX6_release_15 : decode mX6_release.2.1 15 = .ok (.invokevirtual 62, 3) := by decide +kernel
theorem dX6_release_18 : decode mX6_release.2.1 18 = .ok (.ifCond .ne 14, 3) := by decide +kernel
theorem dX6_release_21 : decode mX6_release.2.1 21 = .ok (.aload_n 0, 1) := by decide +kernel
theorem dX6_release_22 : decode mX6_release.2.1 22 = .ok (.getfield 73, 3) := by decide +kernel
theorem dX6_release_25 : decode mX6_release.2.1 25 = .ok (.iload_n 1, 1) := by decide +kernel
theorem dX6_release_26 : decode mX6_release.2.1 26 = .ok (.ishr, 1) := by decide +kernel
theorem dX6_release_27 : decode mX6_release.2.1 27 = .ok (.iconst 1, 1) := by decide +kernel
theorem dX6_release_28 : decode mX6_release.2.1 28 = .ok (.iand, 1) := by decide +kernel
theorem dX6_release_29 : decode mX6_release.2.1 29 = .ok (.ifCond .ne 5, 3) := by decide +kernel
theorem dX6_release_32 : decode mX6_release.2.1 32 = .ok (.iconst 0, 1) := by decide +kernel
theorem dX6_release_33 : decode mX6_release.2.1 33 = .ok (.ireturn, 1) := by decide +kernel
theorem dX6_release_34 : decode mX6_release.2.1 34 = .ok (.iload_n 1, 1) := by decide +kernel
theorem dX6_release_35 : decode mX6_release.2.1 35 = .ok (.iconst 1, 1) := by decide +kernel
theorem dX6_release_36 : decode mX6_release.2.1 36 = .ok (.if_icmp .ne 12, 3) := by decide +kernel
theorem dX6_release_39 : decode mX6_release.2.1 39 = .ok (.aload_n 0, 1) := by decide +kernel
theorem dX6_release_40 : decode mX6_release.2.1 40 = .ok (.getfield 79, 3) := by decide +kernel
theorem dX6_release_43 : decode mX6_release.2.1 43 = .ok (.bipush 20, 2) := by decide +kernel
theorem dX6_release_45 : decode mX6_release.2.1 45 = .ok (.if_icmp .eq 30, 3) := by decide +kernel
theorem dX6_release_48 : decode mX6_release.2.1 48 = .ok (.iload_n 1, 1) := by decide +kernel
theorem dX6_release_49 : decode mX6_release.2.1 49 = .ok (.iconst 2, 1) := by decide +kernel
theorem dX6_release_50 : decode mX6_release.2.1 50 = .ok (.if_icmp .ne 13, 3) := by decide +kernel
theorem dX6_release_53 : decode mX6_release.2.1 53 = .ok (.aload_n 0, 1) := by decide +kernel
theorem dX6_release_54 : decode mX6_release.2.1 54 = .ok (.invokevirtual 100, 3) := by decide +kernel
theorem dX6_release_57 : decode mX6_release.2.1 57 = .ok (.sipush 250, 3) := by decide +kernel
theorem dX6_release_60 : decode mX6_release.2.1 60 = .ok (.if_icmp .gt 15, 3) := by decide +kernel
theorem dX6_release_63 : decode mX6_release.2.1 63 = .ok (.iload_n 1, 1) := by decide +kernel
theorem dX6_release_64 : decode mX6_release.2.1 64 = .ok (.iconst 3, 1) := by decide +kernel
theorem dX6_release_65 : decode mX6_release.2.1 65 = .ok (.if_icmp .ne 12, 3) := by decide +kernel
theorem dX6_release_68 : decode mX6_release.2.1 68 = .ok (.aload_n 0, 1) := by decide +kernel
theorem dX6_release_69 : decode mX6_release.2.1 69 = .ok (.invokevirtual 69, 3) := by decide +kernel
theorem dX6_release_72 : decode mX6_release.2.1 72 = .ok (.ifCond .eq 5, 3) := by decide +kernel
theorem dX6_release_75 : decode mX6_release.2.1 75 = .ok (.iconst 0, 1) := by decide +kernel
theorem dX6_release_76 : decode mX6_release.2.1 76 = .ok (.ireturn, 1) := by decide +kernel
theorem dX6_release_77 : decode mX6_release.2.1 77 = .ok (.aload_n 0, 1) := by decide +kernel
theorem dX6_release_78 : decode mX6_release.2.1 78 = .ok (.aload_n 0, 1) := by decide +kernel
theorem dX6_release_79 : decode mX6_release.2.1 79 = .ok (.getfield 73, 3) := by decide +kernel
theorem dX6_release_82 : decode mX6_release.2.1 82 = .ok (.iconst 1, 1) := by decide +kernel
theorem dX6_release_83 : decode mX6_release.2.1 83 = .ok (.iload_n 1, 1) := by decide +kernel
theorem dX6_release_84 : decode mX6_release.2.1 84 = .ok (.ishl, 1) := by decide +kernel
theorem dX6_release_85 : decode mX6_release.2.1 85 = .ok (.iconst (-1), 1) := by decide +kernel
theorem dX6_release_86 : decode mX6_release.2.1 86 = .ok (.ixor, 1) := by decide +kernel
theorem dX6_release_87 : decode mX6_release.2.1 87 = .ok (.iand, 1) := by decide +kernel
theorem dX6_release_88 : decode mX6_release.2.1 88 = .ok (.putfield 73, 3) := by decide +kernel
theorem dX6_release_91 : decode mX6_release.2.1 91 = .ok (.iconst 1, 1) := by decide +kernel
theorem dX6_release_92 : decode mX6_release.2.1 92 = .ok (.ireturn, 1) := by decide +kernel
theorem dX6_locks_0 : decode mX6_locks.2.1 0 = .ok (.aload_n 0, 1) := by decide +kernel
theorem dX6_locks_1 : decode mX6_locks.2.1 1 = .ok (.iconst 0, 1) := by decide +kernel
theorem dX6_locks_2 : decode mX6_locks.2.1 2 = .ok (.putfield 47, 3) := by decide +kernel
theorem dX6_locks_5 : decode mX6_locks.2.1 5 = .ok (.aload_n 0, 1) := by decide +kernel
theorem dX6_locks_6 : decode mX6_locks.2.1 6 = .ok (.getfield 73, 3) := by decide +kernel
theorem dX6_locks_9 : decode mX6_locks.2.1 9 = .ok (.ireturn, 1) := by decide +kernel
theorem dX6_placeOf_0 : decode mX6_placeOf.2.1 0 = .ok (.iconst 0, 1) := by decide +kernel
theorem dX6_placeOf_1 : decode mX6_placeOf.2.1 1 = .ok (.istore_n 2, 1) := by decide +kernel
theorem dX6_placeOf_2 : decode mX6_placeOf.2.1 2 = .ok (.aload_n 0, 1) := by decide +kernel
theorem dX6_placeOf_3 : decode mX6_placeOf.2.1 3 = .ok (.getfield 37, 3) := by decide +kernel
theorem dX6_placeOf_6 : decode mX6_placeOf.2.1 6 = .ok (.iload_n 2, 1) := by decide +kernel
theorem dX6_placeOf_7 : decode mX6_placeOf.2.1 7 = .ok (.iaload, 1) := by decide +kernel
theorem dX6_placeOf_8 : decode mX6_placeOf.2.1 8 = .ok (.iload_n 1, 1) := by decide +kernel
theorem dX6_placeOf_9 : decode mX6_placeOf.2.1 9 = .ok (.if_icmp .eq 9, 3) := by decide +kernel
theorem dX6_placeOf_12 : decode mX6_placeOf.2.1 12 = .ok (.iinc 2 1, 3) := by decide +kernel
theorem dX6_placeOf_15 : decode mX6_placeOf.2.1 15 = .ok (.goto (-13), 3) := by decide +kernel
theorem dX6_placeOf_18 : decode mX6_placeOf.2.1 18 = .ok (.iload_n 2, 1) := by decide +kernel
theorem dX6_placeOf_19 : decode mX6_placeOf.2.1 19 = .ok (.ireturn, 1) := by decide +kernel
theorem dX6_hasOpenDoors_0 : decode mX6_hasOpenDoors.2.1 0 = .ok (.aload_n 0, 1) := by decide +kernel
theorem dX6_hasOpenDoors_1 : decode mX6_hasOpenDoors.2.1 1 = .ok (.getfield 7, 3) := by decide +kernel
theorem dX6_hasOpenDoors_4 : decode mX6_hasOpenDoors.2.1 4 = .ok (.iload_n 1, 1) := by decide +kernel
theorem dX6_hasOpenDoors_5 : decode mX6_hasOpenDoors.2.1 5 = .ok (.iaload, 1) := by decide +kernel
theorem dX6_hasOpenDoors_6 : decode mX6_hasOpenDoors.2.1 6 = .ok (.iconst 2, 1) := by decide +kernel
theorem dX6_hasOpenDoors_7 : decode mX6_hasOpenDoors.2.1 7 = .ok (.if_icmp .eq 5, 3) := by decide +kernel
theorem dX6_hasOpenDoors_10 : decode mX6_hasOpenDoors.2.1 10 = .ok (.iconst 0, 1) := by decide +kernel
theorem dX6_hasOpenDoors_11 : decode mX6_hasOpenDoors.2.1 11 = .ok (.ireturn, 1) := by decide +kernel
theorem dX6_hasOpenDoors_12 : decode mX6_hasOpenDoors.2.1 12 = .ok (.aload_n 0, 1) := by decide +kernel
theorem dX6_hasOpenDoors_13 : decode mX6_hasOpenDoors.2.1 13 = .ok (.getfield 13, 3) := by decide +kernel
theorem dX6_hasOpenDoors_16 : decode mX6_hasOpenDoors.2.1 16 = .ok (.iload_n 1, 1) := by decide +kernel
theorem dX6_hasOpenDoors_17 : decode mX6_hasOpenDoors.2.1 17 = .ok (.iaload, 1) := by decide +kernel
theorem dX6_hasOpenDoors_18 : decode mX6_hasOpenDoors.2.1 18 = .ok (.iconst 5, 1) := by decide +kernel
theorem dX6_hasOpenDoors_19 : decode mX6_hasOpenDoors.2.1 19 = .ok (.if_icmp .ne 13, 3) := by decide +kernel
theorem dX6_hasOpenDoors_22 : decode mX6_hasOpenDoors.2.1 22 = .ok (.aload_n 0, 1) := by decide +kernel
theorem dX6_hasOpenDoors_23 : decode mX6_hasOpenDoors.2.1 23 = .ok (.getfield 19, 3) := by decide +kernel
theorem dX6_hasOpenDoors_26 : decode mX6_hasOpenDoors.2.1 26 = .ok (.iload_n 1, 1) := by decide +kernel
theorem dX6_hasOpenDoors_27 : decode mX6_hasOpenDoors.2.1 27 = .ok (.iaload, 1) := by decide +kernel
theorem dX6_hasOpenDoors_28 : decode mX6_hasOpenDoors.2.1 28 = .ok (.iconst 5, 1) := by decide +kernel
theorem dX6_hasOpenDoors_29 : decode mX6_hasOpenDoors.2.1 29 = .ok (.if_icmp .ge 47, 3) := by decide +kernel
theorem dX6_hasOpenDoors_32 : decode mX6_hasOpenDoors.2.1 32 = .ok (.aload_n 0, 1) := by decide +kernel
theorem dX6_hasOpenDoors_33 : decode mX6_hasOpenDoors.2.1 33 = .ok (.getfield 13, 3) := by decide +kernel
theorem dX6_hasOpenDoors_36 : decode mX6_hasOpenDoors.2.1 36 = .ok (.iload_n 1, 1) := by decide +kernel
theorem dX6_hasOpenDoors_37 : decode mX6_hasOpenDoors.2.1 37 = .ok (.iaload, 1) := by decide +kernel
theorem dX6_hasOpenDoors_38 : decode mX6_hasOpenDoors.2.1 38 = .ok (.bipush 6, 2) := by decide +kernel
theorem dX6_hasOpenDoors_40 : decode mX6_hasOpenDoors.2.1 40 = .ok (.if_icmp .eq 36, 3) := by decide +kernel
theorem dX6_hasOpenDoors_43 : decode mX6_hasOpenDoors.2.1 43 = .ok (.aload_n 0, 1) := by decide +kernel
theorem dX6_hasOpenDoors_44 : decode mX6_hasOpenDoors.2.1 44 = .ok (.getfield 13, 3) := by decide +kernel
theorem dX6_hasOpenDoors_47 : decode mX6_hasOpenDoors.2.1 47 = .ok (.iload_n 1, 1) := by decide +kernel
theorem dX6_hasOpenDoors_48 : decode mX6_hasOpenDoors.2.1 48 = .ok (.iaload, 1) := by decide +kernel
theorem dX6_hasOpenDoors_49 : decode mX6_hasOpenDoors.2.1 49 = .ok (.bipush 7, 2) := by decide +kernel
theorem dX6_hasOpenDoors_51 : decode mX6_hasOpenDoors.2.1 51 = .ok (.if_icmp .eq 25, 3) := by decide +kernel
theorem dX6_hasOpenDoors_54 : decode mX6_hasOpenDoors.2.1 54 = .ok (.aload_n 0, 1) := by decide +kernel
theorem dX6_hasOpenDoors_55 : decode mX6_hasOpenDoors.2.1 55 = .ok (.getfield 13, 3) := by decide +kernel
theorem dX6_hasOpenDoors_58 : decode mX6_hasOpenDoors.2.1 58 = .ok (.iload_n 1, 1) := by decide +kernel
theorem dX6_hasOpenDoors_59 : decode mX6_hasOpenDoors.2.1 59 = .ok (.iaload, 1) := by decide +kernel
theorem dX6_hasOpenDoors_60 : decode mX6_hasOpenDoors.2.1 60 = .ok (.bipush 8, 2) := by decide +kernel
theorem dX6_hasOpenDoors_62 : decode mX6_hasOpenDoors.2.1 62 = .ok (.if_icmp .ne 18, 3) := by decide +kernel
theorem dX6_hasOpenDoors_65 : decode mX6_hasOpenDoors.2.1 65 = .ok (.aload_n 0, 1) := by decide +kernel
theorem dX6_hasOpenDoors_66 : decode mX6_hasOpenDoors.2.1 66 = .ok (.getfield 19, 3) := by decide +kernel
theorem dX6_hasOpenDoors_69 : decode mX6_hasOpenDoors.2.1 69 = .ok (.iload_n 1, 1) := by decide +kernel
theorem dX6_hasOpenDoors_70 : decode mX6_hasOpenDoors.2.1 70 = .ok (.iaload, 1) := by decide +kernel
theorem dX6_hasOpenDoors_71 : decode mX6_hasOpenDoors.2.1 71 = .ok (.bipush 10, 2) := by decide +kernel
theorem dX6_hasOpenDoors_73 : decode mX6_hasOpenDoors.2.1 73 = .ok (.if_icmp .ge 7, 3) := by decide +kernel
theorem dX6_hasOpenDoors_76 : decode mX6_hasOpenDoors.2.1 76 = .ok (.iconst 1, 1) := by decide +kernel
theorem dX6_hasOpenDoors_77 : decode mX6_hasOpenDoors.2.1 77 = .ok (.goto 4, 3) := by decide +kernel
theorem dX6_hasOpenDoors_80 : decode mX6_hasOpenDoors.2.1 80 = .ok (.iconst 0, 1) := by decide +kernel
theorem dX6_hasOpenDoors_81 : decode mX6_hasOpenDoors.2.1 81 = .ok (.ireturn, 1) := by decide +kernel
theorem dX6_where_0 : decode mX6_where.2.1 0 = .ok (.aload_n 0, 1) := by decide +kernel
theorem dX6_where_1 : decode mX6_where.2.1 1 = .ok (.iload_n 1, 1) := by decide +kernel
theorem dX6_where_2 : decode mX6_where.2.1 2 = .ok (.invokestatic 126, 3) := by decide +kernel
theorem dX6_where_5 : decode mX6_where.2.1 5 = .ok (.ifCond .ne 7, 3) := by decide +kernel
theorem dX6_where_8 : decode mX6_where.2.1 8 = .ok (.iconst 1, 1) := by decide +kernel
theorem dX6_where_9 : decode mX6_where.2.1 9 = .ok (.goto 4, 3) := by decide +kernel
theorem dX6_where_12 : decode mX6_where.2.1 12 = .ok (.iconst 0, 1) := by decide +kernel
theorem dX6_where_13 : decode mX6_where.2.1 13 = .ok (.invokevirtual 62, 3) := by decide +kernel
theorem dX6_where_16 : decode mX6_where.2.1 16 = .ok (.ifCond .eq 5, 3) := by decide +kernel
theorem dX6_where_19 : decode mX6_where.2.1 19 = .ok (.iconst 0, 1) := by decide +kernel
theorem dX6_where_20 : decode mX6_where.2.1 20 = .ok (.ireturn, 1) := by decide +kernel
theorem dX6_where_21 : decode mX6_where.2.1 21 = .ok (.iload_n 2, 1) := by decide +kernel
theorem dX6_where_22 : decode mX6_where.2.1 22 = .ok (.tableswitch 182 0 7 #[46, 53, 91, 112, 133, 154, 168, 175], 46) := by decide +kernel
theorem dX6_where_68 : decode mX6_where.2.1 68 = .ok (.aload_n 0, 1) := by decide +kernel
theorem dX6_where_69 : decode mX6_where.2.1 69 = .ok (.getfield 7, 3) := by decide +kernel
theorem dX6_where_72 : decode mX6_where.2.1 72 = .ok (.iload_n 1, 1) := by decide +kernel
theorem dX6_where_73 : decode mX6_where.2.1 73 = .ok (.iaload, 1) := by decide +kernel
theorem dX6_where_74 : decode mX6_where.2.1 74 = .ok (.ireturn, 1) := by decide +kernel
theorem dX6_where_75 : decode mX6_where.2.1 75 = .ok (.aload_n 0, 1) := by decide +kernel
theorem dX6_where_76 : decode mX6_where.2.1 76 = .ok (.getfield 7, 3) := by decide +kernel
theorem dX6_where_79 : decode mX6_where.2.1 79 = .ok (.iload_n 1, 1) := by decide +kernel
theorem dX6_where_80 : decode mX6_where.2.1 80 = .ok (.iaload, 1) := by decide +kernel
theorem dX6_where_81 : decode mX6_where.2.1 81 = .ok (.ifCond .ne 7, 3) := by decide +kernel
theorem dX6_where_84 : decode mX6_where.2.1 84 = .ok (.iconst (-1), 1) := by decide +kernel
theorem dX6_where_85 : decode mX6_where.2.1 85 = .ok (.goto 27, 3) := by decide +kernel
theorem dX6_where_88 : decode mX6_where.2.1 88 = .ok (.aload_n 0, 1) := by decide +kernel
theorem dX6_where_89 : decode mX6_where.2.1 89 = .ok (.getfield 7, 3) := by decide +kernel
theorem dX6_where_92 : decode mX6_where.2.1 92 = .ok (.iload_n 1, 1) := by decide +kernel
theorem dX6_where_93 : decode mX6_where.2.1 93 = .ok (.iaload, 1) := by decide +kernel
theorem dX6_where_94 : decode mX6_where.2.1 94 = .ok (.iconst 1, 1) := by decide +kernel
theorem dX6_where_95 : decode mX6_where.2.1 95 = .ok (.if_icmp .ne 11, 3) := by decide +kernel
theorem dX6_where_98 : decode mX6_where.2.1 98 = .ok (.aload_n 0, 1) := by decide +kernel
theorem dX6_where_99 : decode mX6_where.2.1 99 = .ok (.iload_n 1, 1) := by decide +kernel
theorem dX6_where_100 : decode mX6_where.2.1 100 = .ok (.invokevirtual 135, 3) := by decide +kernel
theorem dX6_where_103 : decode mX6_where.2.1 103 = .ok (.goto 9, 3) := by decide +kernel
theorem dX6_where_106 : decode mX6_where.2.1 106 = .ok (.aload_n 0, 1) := by decide +kernel
theorem dX6_where_107 : decode mX6_where.2.1 107 = .ok (.getfield 13, 3) := by decide +kernel
theorem dX6_where_110 : decode mX6_where.2.1 110 = .ok (.iload_n 1, 1) := by decide +kernel
theorem dX6_where_111 : decode mX6_where.2.1 111 = .ok (.iaload, 1) := by decide +kernel
theorem dX6_where_112 : decode mX6_where.2.1 112 = .ok (.ireturn, 1) := by decide +kernel
theorem dX6_where_113 : decode mX6_where.2.1 113 = .ok (.aload_n 0, 1) := by decide +kernel
theorem dX6_where_114 : decode mX6_where.2.1 114 = .ok (.getfield 7, 3) := by decide +kernel
theorem dX6_where_117 : decode mX6_where.2.1 117 = .ok (.iload_n 1, 1) := by decide +kernel
theorem dX6_where_118 : decode mX6_where.2.1 118 = .ok (.iaload, 1) := by decide +kernel
theorem dX6_where_119 : decode mX6_where.2.1 119 = .ok (.iconst 1, 1) := by decide +kernel
theorem dX6_where_120 : decode mX6_where.2.1 120 = .ok (.if_icmp .le 12, 3) := by decide +kernel
theorem dX6_where_123 : decode mX6_where.2.1 123 = .ok (.aload_n 0, 1) := by decide +kernel
theorem dX6_where_124 : decode mX6_where.2.1 124 = .ok (.getfield 16, 3) := by decide +kernel
theorem dX6_where_127 : decode mX6_where.2.1 127 = .ok (.iload_n 1, 1) := by decide +kernel
theorem dX6_where_128 : decode mX6_where.2.1 128 = .ok (.iaload, 1) := by decide +kernel
theorem dX6_where_129 : decode mX6_where.2.1 129 = .ok (.goto 4, 3) := by decide +kernel
theorem dX6_where_132 : decode mX6_where.2.1 132 = .ok (.iconst (-1), 1) := by decide +kernel
theorem dX6_where_133 : decode mX6_where.2.1 133 = .ok (.ireturn, 1) := by decide +kernel
theorem dX6_where_134 : decode mX6_where.2.1 134 = .ok (.aload_n 0, 1) := by decide +kernel
theorem dX6_where_135 : decode mX6_where.2.1 135 = .ok (.getfield 7, 3) := by decide +kernel
theorem dX6_where_138 : decode mX6_where.2.1 138 = .ok (.iload_n 1, 1) := by decide +kernel
theorem dX6_where_139 : decode mX6_where.2.1 139 = .ok (.iaload, 1) := by decide +kernel
theorem dX6_where_140 : decode mX6_where.2.1 140 = .ok (.iconst 2, 1) := by decide +kernel
theorem dX6_where_141 : decode mX6_where.2.1 141 = .ok (.if_icmp .ne 12, 3) := by decide +kernel
theorem dX6_where_144 : decode mX6_where.2.1 144 = .ok (.aload_n 0, 1) := by decide +kernel
theorem dX6_where_145 : decode mX6_where.2.1 145 = .ok (.getfield 19, 3) := by decide +kernel
theorem dX6_where_148 : decode mX6_where.2.1 148 = .ok (.iload_n 1, 1) := by decide +kernel
theorem dX6_where_149 : decode mX6_where.2.1 149 = .ok (.iaload, 1) := by decide +kernel
theorem dX6_where_150 : decode mX6_where.2.1 150 = .ok (.goto 4, 3) := by decide +kernel
theorem dX6_where_153 : decode mX6_where.2.1 153 = .ok (.iconst (-1), 1) := by decide +kernel
theorem dX6_where_154 : decode mX6_where.2.1 154 = .ok (.ireturn, 1) := by decide +kernel
theorem dX6_where_155 : decode mX6_where.2.1 155 = .ok (.aload_n 0, 1) := by decide +kernel
theorem dX6_where_156 : decode mX6_where.2.1 156 = .ok (.getfield 7, 3) := by decide +kernel
theorem dX6_where_159 : decode mX6_where.2.1 159 = .ok (.iload_n 1, 1) := by decide +kernel
theorem dX6_where_160 : decode mX6_where.2.1 160 = .ok (.iaload, 1) := by decide +kernel
theorem dX6_where_161 : decode mX6_where.2.1 161 = .ok (.iconst 2, 1) := by decide +kernel
theorem dX6_where_162 : decode mX6_where.2.1 162 = .ok (.if_icmp .ne 12, 3) := by decide +kernel
theorem dX6_where_165 : decode mX6_where.2.1 165 = .ok (.aload_n 0, 1) := by decide +kernel
theorem dX6_where_166 : decode mX6_where.2.1 166 = .ok (.getfield 22, 3) := by decide +kernel
theorem dX6_where_169 : decode mX6_where.2.1 169 = .ok (.iload_n 1, 1) := by decide +kernel
theorem dX6_where_170 : decode mX6_where.2.1 170 = .ok (.iaload, 1) := by decide +kernel
theorem dX6_where_171 : decode mX6_where.2.1 171 = .ok (.goto 4, 3) := by decide +kernel
theorem dX6_where_174 : decode mX6_where.2.1 174 = .ok (.iconst (-1), 1) := by decide +kernel
theorem dX6_where_175 : decode mX6_where.2.1 175 = .ok (.ireturn, 1) := by decide +kernel
theorem dX6_where_176 : decode mX6_where.2.1 176 = .ok (.aload_n 0, 1) := by decide +kernel
theorem dX6_where_177 : decode mX6_where.2.1 177 = .ok (.iload_n 1, 1) := by decide +kernel
theorem dX6_where_178 : decode mX6_where.2.1 178 = .ok (.invokevirtual 138, 3) := by decide +kernel
theorem dX6_where_181 : decode mX6_where.2.1 181 = .ok (.ifCond .eq 7, 3) := by decide +kernel
theorem dX6_where_184 : decode mX6_where.2.1 184 = .ok (.iconst 1, 1) := by decide +kernel
theorem dX6_where_185 : decode mX6_where.2.1 185 = .ok (.goto 4, 3) := by decide +kernel
theorem dX6_where_188 : decode mX6_where.2.1 188 = .ok (.iconst 0, 1) := by decide +kernel
theorem dX6_where_189 : decode mX6_where.2.1 189 = .ok (.ireturn, 1) := by decide +kernel
theorem dX6_where_190 : decode mX6_where.2.1 190 = .ok (.aload_n 0, 1) := by decide +kernel
theorem dX6_where_191 : decode mX6_where.2.1 191 = .ok (.getfield 31, 3) := by decide +kernel
theorem dX6_where_194 : decode mX6_where.2.1 194 = .ok (.iload_n 1, 1) := by decide +kernel
theorem dX6_where_195 : decode mX6_where.2.1 195 = .ok (.iaload, 1) := by decide +kernel
theorem dX6_where_196 : decode mX6_where.2.1 196 = .ok (.ireturn, 1) := by decide +kernel
theorem dX6_where_197 : decode mX6_where.2.1 197 = .ok (.aload_n 0, 1) := by decide +kernel
theorem dX6_where_198 : decode mX6_where.2.1 198 = .ok (.getfield 34, 3) := by decide +kernel
theorem dX6_where_201 : decode mX6_where.2.1 201 = .ok (.iload_n 1, 1) := by decide +kernel
theorem dX6_where_202 : decode mX6_where.2.1 202 = .ok (.iaload, 1) := by decide +kernel
theorem dX6_where_203 : decode mX6_where.2.1 203 = .ok (.ireturn, 1) := by decide +kernel
theorem dX6_where_204 : decode mX6_where.2.1 204 = .ok (.iconst (-1), 1) := by decide +kernel
theorem dX6_where_205 : decode mX6_where.2.1 205 = .ok (.ireturn, 1) := by decide +kernel
theorem dX6_gap_0 : decode mX6_gap.2.1 0 = .ok (.aload_n 0, 1) := by decide +kernel
theorem dX6_gap_1 : decode mX6_gap.2.1 1 = .ok (.iload_n 1, 1) := by decide +kernel
theorem dX6_gap_2 : decode mX6_gap.2.1 2 = .ok (.invokestatic 126, 3) := by decide +kernel
theorem dX6_gap_5 : decode mX6_gap.2.1 5 = .ok (.ifCond .ne 7, 3) := by decide +kernel
theorem dX6_gap_8 : decode mX6_gap.2.1 8 = .ok (.iconst 1, 1) := by decide +kernel
theorem dX6_gap_9 : decode mX6_gap.2.1 9 = .ok (.goto 4, 3) := by decide +kernel
theorem dX6_gap_12 : decode mX6_gap.2.1 12 = .ok (.iconst 0, 1) := by decide +kernel
theorem dX6_gap_13 : decode mX6_gap.2.1 13 = .ok (.invokevirtual 62, 3) := by decide +kernel
theorem dX6_gap_16 : decode mX6_gap.2.1 16 = .ok (.ifCond .ne 13, 3) := by decide +kernel
theorem dX6_gap_19 : decode mX6_gap.2.1 19 = .ok (.aload_n 0, 1) := by decide +kernel
theorem dX6_gap_20 : decode mX6_gap.2.1 20 = .ok (.getfield 7, 3) := by decide +kernel
theorem dX6_gap_23 : decode mX6_gap.2.1 23 = .ok (.iload_n 1, 1) := by decide +kernel
theorem dX6_gap_24 : decode mX6_gap.2.1 24 = .ok (.iaload, 1) := by decide +kernel
theorem dX6_gap_25 : decode mX6_gap.2.1 25 = .ok (.iconst 3, 1) := by decide +kernel
theorem dX6_gap_26 : decode mX6_gap.2.1 26 = .ok (.if_icmp .eq 16, 3) := by decide +kernel
theorem dX6_gap_29 : decode mX6_gap.2.1 29 = .ok (.aload_n 0, 1) := by decide +kernel
theorem dX6_gap_30 : decode mX6_gap.2.1 30 = .ok (.getfield 47, 3) := by decide +kernel
theorem dX6_gap_33 : decode mX6_gap.2.1 33 = .ok (.ifCond .le 7, 3) := by decide +kernel
theorem dX6_gap_36 : decode mX6_gap.2.1 36 = .ok (.iconst 0, 1) := by decide +kernel
theorem dX6_gap_37 : decode mX6_gap.2.1 37 = .ok (.goto 4, 3) := by decide +kernel
theorem dX6_gap_40 : decode mX6_gap.2.1 40 = .ok (.iconst (-1), 1) := by decide +kernel
theorem dX6_gap_41 : decode mX6_gap.2.1 41 = .ok (.ireturn, 1) := by decide +kernel
theorem dX6_gap_42 : decode mX6_gap.2.1 42 = .ok (.sipush 12000, 3) := by decide +kernel
theorem dX6_gap_45 : decode mX6_gap.2.1 45 = .ok (.istore_n 2, 1) := by decide +kernel
theorem dX6_gap_46 : decode mX6_gap.2.1 46 = .ok (.iconst 0, 1) := by decide +kernel
theorem dX6_gap_47 : decode mX6_gap.2.1 47 = .ok (.istore_n 3, 1) := by decide +kernel
theorem dX6_gap_48 : decode mX6_gap.2.1 48 = .ok (.iload_n 3, 1) := by decide +kernel
theorem dX6_gap_49 : decode mX6_gap.2.1 49 = .ok (.bipush 60, 2) := by decide +kernel
theorem dX6_gap_51 : decode mX6_gap.2.1 51 = .ok (.if_icmp .ge 90, 3) := by decide +kernel
theorem dX6_gap_54 : decode mX6_gap.2.1 54 = .ok (.aload_n 0, 1) := by decide +kernel
theorem dX6_gap_55 : decode mX6_gap.2.1 55 = .ok (.getfield 7, 3) := by decide +kernel
theorem dX6_gap_58 : decode mX6_gap.2.1 58 = .ok (.iload_n 3, 1) := by decide +kernel
theorem dX6_gap_59 : decode mX6_gap.2.1 59 = .ok (.iaload, 1) := by decide +kernel
theorem dX6_gap_60 : decode mX6_gap.2.1 60 = .ok (.iconst 3, 1) := by decide +kernel
theorem dX6_gap_61 : decode mX6_gap.2.1 61 = .ok (.if_icmp .ne 74, 3) := by decide +kernel
theorem dX6_gap_64 : decode mX6_gap.2.1 64 = .ok (.iload_n 3, 1) := by decide +kernel
theorem dX6_gap_65 : decode mX6_gap.2.1 65 = .ok (.iload_n 1, 1) := by decide +kernel
theorem dX6_gap_66 : decode mX6_gap.2.1 66 = .ok (.if_icmp .ne 6, 3) := by decide +kernel
theorem dX6_gap_69 : decode mX6_gap.2.1 69 = .ok (.goto 66, 3) := by decide +kernel
theorem dX6_gap_72 : decode mX6_gap.2.1 72 = .ok (.sipush 6000, 3) := by decide +kernel
theorem dX6_gap_75 : decode mX6_gap.2.1 75 = .ok (.aload_n 0, 1) := by decide +kernel
theorem dX6_gap_76 : decode mX6_gap.2.1 76 = .ok (.getfield 16, 3) := by decide +kernel
theorem dX6_gap_79 : decode mX6_gap.2.1 79 = .ok (.iload_n 3, 1) := by decide +kernel
theorem dX6_gap_80 : decode mX6_gap.2.1 80 = .ok (.iaload, 1) := by decide +kernel
theorem dX6_gap_81 : decode mX6_gap.2.1 81 = .ok (.imul, 1) := by decide +kernel
theorem dX6_gap_82 : decode mX6_gap.2.1 82 = .ok (.aload_n 0, 1) := by decide +kernel
theorem dX6_gap_83 : decode mX6_gap.2.1 83 = .ok (.getfield 13, 3) := by decide +kernel
theorem dX6_gap_86 : decode mX6_gap.2.1 86 = .ok (.iload_n 3, 1) := by decide +kernel
theorem dX6_gap_87 : decode mX6_gap.2.1 87 = .ok (.iaload, 1) := by decide +kernel
theorem dX6_gap_88 : decode mX6_gap.2.1 88 = .ok (.iadd, 1) := by decide +kernel
theorem dX6_gap_89 : decode mX6_gap.2.1 89 = .ok (.sipush 6000, 3) := by decide +kernel
theorem dX6_gap_92 : decode mX6_gap.2.1 92 = .ok (.aload_n 0, 1) := by decide +kernel
theorem dX6_gap_93 : decode mX6_gap.2.1 93 = .ok (.getfield 16, 3) := by decide +kernel
theorem dX6_gap_96 : decode mX6_gap.2.1 96 = .ok (.iload_n 1, 1) := by decide +kernel
theorem dX6_gap_97 : decode mX6_gap.2.1 97 = .ok (.iaload, 1) := by decide +kernel
theorem dX6_gap_98 : decode mX6_gap.2.1 98 = .ok (.imul, 1) := by decide +kernel
theorem dX6_gap_99 : decode mX6_gap.2.1 99 = .ok (.isub, 1) := by decide +kernel
theorem dX6_gap_100 : decode mX6_gap.2.1 100 = .ok (.aload_n 0, 1) := by decide +kernel
theorem dX6_gap_101 : decode mX6_gap.2.1 101 = .ok (.getfield 13, 3) := by decide +kernel
theorem dX6_gap_104 : decode mX6_gap.2.1 104 = .ok (.iload_n 1, 1) := by decide +kernel
theorem dX6_gap_105 : decode mX6_gap.2.1 105 = .ok (.iaload, 1) := by decide +kernel
theorem dX6_gap_106 : decode mX6_gap.2.1 106 = .ok (.isub, 1) := by decide +kernel
theorem dX6_gap_107 : decode mX6_gap.2.1 107 = .ok (.sipush 12000, 3) := by decide +kernel
theorem dX6_gap_110 : decode mX6_gap.2.1 110 = .ok (.iadd, 1) := by decide +kernel
theorem dX6_gap_111 : decode mX6_gap.2.1 111 = .ok (.sipush 12000, 3) := by decide +kernel
theorem dX6_gap_114 : decode mX6_gap.2.1 114 = .ok (.irem, 1) := by decide +kernel
theorem dX6_gap_115 : decode mX6_gap.2.1 115 = .ok (.istore 4, 2) := by decide +kernel
theorem dX6_gap_117 : decode mX6_gap.2.1 117 = .ok (.iload 4, 2) := by decide +kernel
theorem dX6_gap_119 : decode mX6_gap.2.1 119 = .ok (.ifCond .le 14, 3) := by decide +kernel
theorem dX6_gap_122 : decode mX6_gap.2.1 122 = .ok (.iload 4, 2) := by decide +kernel
theorem dX6_gap_124 : decode mX6_gap.2.1 124 = .ok (.iload_n 2, 1) := by decide +kernel
theorem dX6_gap_125 : decode mX6_gap.2.1 125 = .ok (.if_icmp .ge 8, 3) := by decide +kernel
theorem dX6_gap_128 : decode mX6_gap.2.1 128 = .ok (.iload 4, 2) := by decide +kernel
theorem dX6_gap_130 : decode mX6_gap.2.1 130 = .ok (.goto 4, 3) := by decide +kernel
theorem dX6_gap_133 : decode mX6_gap.2.1 133 = .ok (.iload_n 2, 1) := by decide +kernel
theorem dX6_gap_134 : decode mX6_gap.2.1 134 = .ok (.istore_n 2, 1) := by decide +kernel
theorem dX6_gap_135 : decode mX6_gap.2.1 135 = .ok (.iinc 3 1, 3) := by decide +kernel
theorem dX6_gap_138 : decode mX6_gap.2.1 138 = .ok (.goto (-90), 3) := by decide +kernel
theorem dX6_gap_141 : decode mX6_gap.2.1 141 = .ok (.iload_n 2, 1) := by decide +kernel
theorem dX6_gap_142 : decode mX6_gap.2.1 142 = .ok (.ireturn, 1) := by decide +kernel
theorem dX6_sided_0 : decode mX6_sided.2.1 0 = .ok (.aload_n 0, 1) := by decide +kernel
theorem dX6_sided_1 : decode mX6_sided.2.1 1 = .ok (.iconst 0, 1) := by decide +kernel
theorem dX6_sided_2 : decode mX6_sided.2.1 2 = .ok (.putfield 47, 3) := by decide +kernel
theorem dX6_sided_5 : decode mX6_sided.2.1 5 = .ok (.iload_n 1, 1) := by decide +kernel
theorem dX6_sided_6 : decode mX6_sided.2.1 6 = .ok (.iconst 0, 1) := by decide +kernel
theorem dX6_sided_7 : decode mX6_sided.2.1 7 = .ok (.aload_n 0, 1) := by decide +kernel
theorem dX6_sided_8 : decode mX6_sided.2.1 8 = .ok (.getfield 79, 3) := by decide +kernel
theorem dX6_sided_11 : decode mX6_sided.2.1 11 = .ok (.iconst 1, 1) := by decide +kernel
theorem dX6_sided_12 : decode mX6_sided.2.1 12 = .ok (.isub, 1) := by decide +kernel
theorem dX6_sided_13 : decode mX6_sided.2.1 13 = .ok (.invokestatic 50, 3) := by decide +kernel
theorem dX6_sided_16 : decode mX6_sided.2.1 16 = .ok (.ifCond .eq 12, 3) := by decide +kernel
theorem dX6_sided_19 : decode mX6_sided.2.1 19 = .ok (.aload_n 0, 1) := by decide +kernel
theorem dX6_sided_20 : decode mX6_sided.2.1 20 = .ok (.getfield 37, 3) := by decide +kernel
theorem dX6_sided_23 : decode mX6_sided.2.1 23 = .ok (.iload_n 1, 1) := by decide +kernel
theorem dX6_sided_24 : decode mX6_sided.2.1 24 = .ok (.iaload, 1) := by decide +kernel
theorem dX6_sided_25 : decode mX6_sided.2.1 25 = .ok (.goto 4, 3) := by decide +kernel
theorem dX6_sided_28 : decode mX6_sided.2.1 28 = .ok (.iconst (-1), 1) := by decide +kernel
theorem dX6_sided_29 : decode mX6_sided.2.1 29 = .ok (.ireturn, 1) := by decide +kernel
theorem dX6_state_0 : decode mX6_state.2.1 0 = .ok (.aload_n 0, 1) := by decide +kernel
theorem dX6_state_1 : decode mX6_state.2.1 1 = .ok (.iconst 0, 1) := by decide +kernel
theorem dX6_state_2 : decode mX6_state.2.1 2 = .ok (.putfield 47, 3) := by decide +kernel
theorem dX6_state_5 : decode mX6_state.2.1 5 = .ok (.iload_n 1, 1) := by decide +kernel
theorem dX6_state_6 : decode mX6_state.2.1 6 = .ok (.tableswitch 106 0 9 #[54, 59, 64, 69, 74, 79, 85, 91, 96, 101], 54) := by decide +kernel
theorem dX6_state_60 : decode mX6_state.2.1 60 = .ok (.aload_n 0, 1) := by decide +kernel
theorem dX6_state_61 : decode mX6_state.2.1 61 = .ok (.getfield 114, 3) := by decide +kernel
theorem dX6_state_64 : decode mX6_state.2.1 64 = .ok (.ireturn, 1) := by decide +kernel
theorem dX6_state_65 : decode mX6_state.2.1 65 = .ok (.aload_n 0, 1) := by decide +kernel
theorem dX6_state_66 : decode mX6_state.2.1 66 = .ok (.getfield 111, 3) := by decide +kernel
theorem dX6_state_69 : decode mX6_state.2.1 69 = .ok (.ireturn, 1) := by decide +kernel
theorem dX6_state_70 : decode mX6_state.2.1 70 = .ok (.aload_n 0, 1) := by decide +kernel
theorem dX6_state_71 : decode mX6_state.2.1 71 = .ok (.getfield 43, 3) := by decide +kernel
theorem dX6_state_74 : decode mX6_state.2.1 74 = .ok (.ireturn, 1) := by decide +kernel
theorem dX6_state_75 : decode mX6_state.2.1 75 = .ok (.aload_n 0, 1) := by decide +kernel
theorem dX6_state_76 : decode mX6_state.2.1 76 = .ok (.invokevirtual 100, 3) := by decide +kernel
theorem dX6_state_79 : decode mX6_state.2.1 79 = .ok (.ireturn, 1) := by decide +kernel
theorem dX6_state_80 : decode mX6_state.2.1 80 = .ok (.aload_n 0, 1) := by decide +kernel
theorem dX6_state_81 : decode mX6_state.2.1 81 = .ok (.getfield 79, 3) := by decide +kernel
theorem dX6_state_84 : decode mX6_state.2.1 84 = .ok (.ireturn, 1) := by decide +kernel
theorem dX6_state_85 : decode mX6_state.2.1 85 = .ok (.aload_n 0, 1) := by decide +kernel
theorem dX6_state_86 : decode mX6_state.2.1 86 = .ok (.iconst 3, 1) := by decide +kernel
theorem dX6_state_87 : decode mX6_state.2.1 87 = .ok (.invokevirtual 129, 3) := by decide +kernel
theorem dX6_state_90 : decode mX6_state.2.1 90 = .ok (.ireturn, 1) := by decide +kernel
theorem dX6_state_91 : decode mX6_state.2.1 91 = .ok (.aload_n 0, 1) := by decide +kernel
theorem dX6_state_92 : decode mX6_state.2.1 92 = .ok (.iconst 2, 1) := by decide +kernel
theorem dX6_state_93 : decode mX6_state.2.1 93 = .ok (.invokevirtual 129, 3) := by decide +kernel
theorem dX6_state_96 : decode mX6_state.2.1 96 = .ok (.ireturn, 1) := by decide +kernel
theorem dX6_state_97 : decode mX6_state.2.1 97 = .ok (.aload_n 0, 1) := by decide +kernel
theorem dX6_state_98 : decode mX6_state.2.1 98 = .ok (.invokevirtual 141, 3) := by decide +kernel
theorem dX6_state_101 : decode mX6_state.2.1 101 = .ok (.ireturn, 1) := by decide +kernel
theorem dX6_state_102 : decode mX6_state.2.1 102 = .ok (.aload_n 0, 1) := by decide +kernel
theorem dX6_state_103 : decode mX6_state.2.1 103 = .ok (.getfield 117, 3) := by decide +kernel
theorem dX6_state_106 : decode mX6_state.2.1 106 = .ok (.ireturn, 1) := by decide +kernel
theorem dX6_state_107 : decode mX6_state.2.1 107 = .ok (.aload_n 0, 1) := by decide +kernel
theorem dX6_state_108 : decode mX6_state.2.1 108 = .ok (.getfield 76, 3) := by decide +kernel
theorem dX6_state_111 : decode mX6_state.2.1 111 = .ok (.ireturn, 1) := by decide +kernel
theorem dX6_state_112 : decode mX6_state.2.1 112 = .ok (.iconst (-1), 1) := by decide +kernel
theorem dX6_state_113 : decode mX6_state.2.1 113 = .ok (.ireturn, 1) := by decide +kernel
theorem dX6_all_0 : decode mX6_all.2.1 0 = .ok (.iconst 0, 1) := by decide +kernel
theorem dX6_all_1 : decode mX6_all.2.1 1 = .ok (.istore_n 1, 1) := by decide +kernel
theorem dX6_all_2 : decode mX6_all.2.1 2 = .ok (.iconst 0, 1) := by decide +kernel
theorem dX6_all_3 : decode mX6_all.2.1 3 = .ok (.istore_n 2, 1) := by decide +kernel
theorem dX6_all_4 : decode mX6_all.2.1 4 = .ok (.iload_n 2, 1) := by decide +kernel
theorem dX6_all_5 : decode mX6_all.2.1 5 = .ok (.bipush 60, 2) := by decide +kernel
theorem dX6_all_7 : decode mX6_all.2.1 7 = .ok (.if_icmp .ge 18, 3) := by decide +kernel
theorem dX6_all_10 : decode mX6_all.2.1 10 = .ok (.iload_n 1, 1) := by decide +kernel
theorem dX6_all_11 : decode mX6_all.2.1 11 = .ok (.aload_n 0, 1) := by decide +kernel
theorem dX6_all_12 : decode mX6_all.2.1 12 = .ok (.getfield 31, 3) := by decide +kernel
theorem dX6_all_15 : decode mX6_all.2.1 15 = .ok (.iload_n 2, 1) := by decide +kernel
theorem dX6_all_16 : decode mX6_all.2.1 16 = .ok (.iaload, 1) := by decide +kernel
theorem dX6_all_17 : decode mX6_all.2.1 17 = .ok (.iadd, 1) := by decide +kernel
theorem dX6_all_18 : decode mX6_all.2.1 18 = .ok (.istore_n 1, 1) := by decide +kernel
theorem dX6_all_19 : decode mX6_all.2.1 19 = .ok (.iinc 2 1, 3) := by decide +kernel
theorem dX6_all_22 : decode mX6_all.2.1 22 = .ok (.goto (-18), 3) := by decide +kernel
theorem dX6_all_25 : decode mX6_all.2.1 25 = .ok (.iload_n 1, 1) := by decide +kernel
theorem dX6_all_26 : decode mX6_all.2.1 26 = .ok (.ireturn, 1) := by decide +kernel
