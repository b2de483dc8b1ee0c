/-! decode rows -/
theorem dX6_init_0 : decode mX6_init.2.1 0 = .ok (.aload_n 0, 1) := by decide +kernel
theorem dX6_init_1 : decode mX6_init.2.1 1 = .ok (.invokespecial 1, 3) := by decide +kernel
theorem dX6_init_4 : decode mX6_init.2.1 4 = .ok (.aload_n 0, 1) := by decide +kernel
theorem dX6_init_5 : decode mX6_init.2.1 5 = .ok (.bipush 60, 2) := by decide +kernel
theorem dX6_init_7 : decode mX6_init.2.1 7 = .ok (.newarray .int, 2) := by decide +kernel
theorem dX6_init_9 : decode mX6_init.2.1 9 = .ok (.putfield 7, 3) := by decide +kernel
theorem dX6_init_12 : decode mX6_init.2.1 12 = .ok (.aload_n 0, 1) := by decide +kernel
theorem dX6_init_13 : decode mX6_init.2.1 13 = .ok (.bipush 60, 2) := by decide +kernel
theorem dX6_init_15 : decode mX6_init.2.1 15 = .ok (.newarray .int, 2) := by decide +kernel
theorem dX6_init_17 : decode mX6_init.2.1 17 = .ok (.putfield 13, 3) := by decide +kernel
theorem dX6_init_20 : decode mX6_init.2.1 20 = .ok (.aload_n 0, 1) := by decide +kernel
theorem dX6_init_21 : decode mX6_init.2.1 21 = .ok (.bipush 60, 2) := by decide +kernel
theorem dX6_init_23 : decode mX6_init.2.1 23 = .ok (.newarray .int, 2) := by decide +kernel
theorem dX6_init_25 : decode mX6_init.2.1 25 = .ok (.putfield 16, 3) := by decide +kernel
theorem dX6_init_28 : decode mX6_init.2.1 28 = .ok (.aload_n 0, 1) := by decide +kernel
theorem dX6_init_29 : decode mX6_init.2.1 29 = .ok (.bipush 60, 2) := by decide +kernel
theorem dX6_init_31 : decode mX6_init.2.1 31 = .ok (.newarray .int, 2) := by decide +kernel
theorem dX6_init_33 : decode mX6_init.2.1 33 = .ok (.putfield 19, 3) := by decide +kernel
theorem dX6_init_36 : decode mX6_init.2.1 36 = .ok (.aload_n 0, 1) := by decide +kernel
theorem dX6_init_37 : decode mX6_init.2.1 37 = .ok (.bipush 60, 2) := by decide +kernel
theorem dX6_init_39 : decode mX6_init.2.1 39 = .ok (.newarray .int, 2) := by decide +kernel
theorem dX6_init_41 : decode mX6_init.2.1 41 = .ok (.putfield 22, 3) := by decide +kernel
theorem dX6_init_44 : decode mX6_init.2.1 44 = .ok (.aload_n 0, 1) := by decide +kernel
theorem dX6_init_45 : decode mX6_init.2.1 45 = .ok (.bipush 60, 2) := by decide +kernel
theorem dX6_init_47 : decode mX6_init.2.1 47 = .ok (.newarray .int, 2) := by decide +kernel
theorem dX6_init_49 : decode mX6_init.2.1 49 = .ok (.putfield 25, 3) := by decide +kernel
theorem dX6_init_52 : decode mX6_init.2.1 52 = .ok (.aload_n 0, 1) := by decide +kernel
theorem dX6_init_53 : decode mX6_init.2.1 53 = .ok (.bipush 60, 2) := by decide +kernel
theorem dX6_init_55 : decode mX6_init.2.1 55 = .ok (.newarray .int, 2) := by decide +kernel
theorem dX6_init_57 : decode mX6_init.2.1 57 = .ok (.putfield 28, 3) := by decide +kernel
theorem dX6_init_60 : decode mX6_init.2.1 60 = .ok (.aload_n 0, 1) := by decide +kernel
theorem dX6_init_61 : decode mX6_init.2.1 61 = .ok (.bipush 60, 2) := by decide +kernel
theorem dX6_init_63 : decode mX6_init.2.1 63 = .ok (.newarray .int, 2) := by decide +kernel
theorem dX6_init_65 : decode mX6_init.2.1 65 = .ok (.putfield 31, 3) := by decide +kernel
theorem dX6_init_68 : decode mX6_init.2.1 68 = .ok (.aload_n 0, 1) := by decide +kernel
theorem dX6_init_69 : decode mX6_init.2.1 69 = .ok (.bipush 60, 2) := by decide +kernel
theorem dX6_init_71 : decode mX6_init.2.1 71 = .ok (.newarray .int, 2) := by decide +kernel
theorem dX6_init_73 : decode mX6_init.2.1 73 = .ok (.putfield 34, 3) := by decide +kernel
theorem dX6_init_76 : decode mX6_init.2.1 76 = .ok (.aload_n 0, 1) := by decide +kernel
theorem dX6_init_77 : decode mX6_init.2.1 77 = .ok (.bipush 20, 2) := by decide +kernel
theorem dX6_init_79 : decode mX6_init.2.1 79 = .ok (.newarray .int, 2) := by decide +kernel
theorem dX6_init_81 : decode mX6_init.2.1 81 = .ok (.putfield 37, 3) := by decide +kernel
theorem dX6_init_84 : decode mX6_init.2.1 84 = .ok (.aload_n 0, 1) := by decide +kernel
theorem dX6_init_85 : decode mX6_init.2.1 85 = .ok (.iconst 5, 1) := by decide +kernel
theorem dX6_init_86 : decode mX6_init.2.1 86 = .ok (.newarray .int, 2) := by decide +kernel
theorem dX6_init_88 : decode mX6_init.2.1 88 = .ok (.putfield 40, 3) := by decide +kernel
theorem dX6_init_91 : decode mX6_init.2.1 91 = .ok (.aload_n 0, 1) := by decide +kernel
theorem dX6_init_92 : decode mX6_init.2.1 92 = .ok (.bipush 60, 2) := by decide +kernel
theorem dX6_init_94 : decode mX6_init.2.1 94 = .ok (.putfield 43, 3) := by decide +kernel
theorem dX6_init_97 : decode mX6_init.2.1 97 = .ok (.iconst 0, 1) := by decide +kernel
theorem dX6_init_98 : decode mX6_init.2.1 98 = .ok (.istore_n 1, 1) := by decide +kernel
theorem dX6_init_99 : decode mX6_init.2.1 99 = .ok (.iload_n 1, 1) := by decide +kernel
theorem dX6_init_100 : decode mX6_init.2.1 100 = .ok (.bipush 60, 2) := by decide +kernel
theorem dX6_init_102 : decode mX6_init.2.1 102 = .ok (.if_icmp .ge 16, 3) := by decide +kernel
theorem dX6_init_105 : decode mX6_init.2.1 105 = .ok (.aload_n 0, 1) := by decide +kernel
theorem dX6_init_106 : decode mX6_init.2.1 106 = .ok (.getfield 22, 3) := by decide +kernel
theorem dX6_init_109 : decode mX6_init.2.1 109 = .ok (.iload_n 1, 1) := by decide +kernel
theorem dX6_init_110 : decode mX6_init.2.1 110 = .ok (.iconst (-1), 1) := by decide +kernel
theorem dX6_init_111 : decode mX6_init.2.1 111 = .ok (.iastore, 1) := by decide +kernel
theorem dX6_init_112 : decode mX6_init.2.1 112 = .ok (.iinc 1 1, 3) := by decide +kernel
theorem dX6_init_115 : decode mX6_init.2.1 115 = .ok (.goto (-16), 3) := by decide +kernel
theorem dX6_init_118 : decode mX6_init.2.1 118 = .ok (.return_, 1) := by decide +kernel
theorem dX6_thrown_0 : decode mX6_thrown.2.1 0 = .ok (.aload_n 0, 1) := by decide +kernel
theorem dX6_thrown_1 : decode mX6_thrown.2.1 1 = .ok (.getfield 47, 3) := by decide +kernel
theorem dX6_thrown_4 : decode mX6_thrown.2.1 4 = .ok (.ireturn, 1) := by decide +kernel
theorem dX6_fails_0 : decode mX6_fails.2.1 0 = .ok (.aload_n 0, 1) := by decide +kernel
theorem dX6_fails_1 : decode mX6_fails.2.1 1 = .ok (.iload_n 1, 1) := by decide +kernel
theorem dX6_fails_2 : decode mX6_fails.2.1 2 = .ok (.ifCond .eq 7, 3) := by decide +kernel
theorem dX6_fails_5 : decode mX6_fails.2.1 5 = .ok (.iconst 1, 1) := by decide +kernel
theorem dX6_fails_6 : decode mX6_fails.2.1 6 = .ok (.goto 4, 3) := by decide +kernel
theorem dX6_fails_9 : decode mX6_fails.2.1 9 = .ok (.iconst 0, 1) := by decide +kernel
theorem dX6_fails_10 : decode mX6_fails.2.1 10 = .ok (.putfield 47, 3) := by decide +kernel
theorem dX6_fails_13 : decode mX6_fails.2.1 13 = .ok (.iload_n 1, 1) := by decide +kernel
theorem dX6_fails_14 : decode mX6_fails.2.1 14 = .ok (.ireturn, 1) := by decide +kernel
theorem dX6_isIn_0 : decode mX6_isIn.2.1 0 = .ok (.iload_n 0, 1) := by decide +kernel
theorem dX6_isIn_1 : decode mX6_isIn.2.1 1 = .ok (.iload_n 1, 1) := by decide +kernel
theorem dX6_isIn_2 : decode mX6_isIn.2.1 2 = .ok (.if_icmp .lt 12, 3) := by decide +kernel
theorem dX6_isIn_5 : decode mX6_isIn.2.1 5 = .ok (.iload_n 0, 1) := by decide +kernel
theorem dX6_isIn_6 : decode mX6_isIn.2.1 6 = .ok (.iload_n 2, 1) := by decide +kernel
theorem dX6_isIn_7 : decode mX6_isIn.2.1 7 = .ok (.if_icmp .gt 7, 3) := by decide +kernel
theorem dX6_isIn_10 : decode mX6_isIn.2.1 10 = .ok (.iconst 1, 1) := by decide +kernel
theorem dX6_isIn_11 : decode mX6_isIn.2.1 11 = .ok (.goto 4, 3) := by decide +kernel
theorem dX6_isIn_14 : decode mX6_isIn.2.1 14 = .ok (.iconst 0, 1) := by decide +kernel
theorem dX6_isIn_15 : decode mX6_isIn.2.1 15 = .ok (.ireturn, 1) := by decide +kernel
theorem dX6_isCabin_0 : decode mX6_isCabin.2.1 0 = .ok (.iload_n 0, 1) := by decide +kernel
theorem dX6_isCabin_1 : decode mX6_isCabin.2.1 1 = .ok (.iconst 0, 1) := by decide +kernel
theorem dX6_isCabin_2 : decode mX6_isCabin.2.1 2 = .ok (.bipush 59, 2) := by decide +kernel
theorem dX6_isCabin_4 : decode mX6_isCabin.2.1 4 = .ok (.invokestatic 50, 3) := by decide +kernel
theorem dX6_isCabin_7 : decode mX6_isCabin.2.1 7 = .ok (.ireturn, 1) := by decide +kernel
theorem dX6_isStation_0 : decode mX6_isStation.2.1 0 = .ok (.iload_n 0, 1) := by decide +kernel
theorem dX6_isStation_1 : decode mX6_isStation.2.1 1 = .ok (.iconst 0, 1) := by decide +kernel
theorem dX6_isStation_2 : decode mX6_isStation.2.1 2 = .ok (.iconst 1, 1) := by decide +kernel
theorem dX6_isStation_3 : decode mX6_isStation.2.1 3 = .ok (.invokestatic 50, 3) := by decide +kernel
theorem dX6_isStation_6 : decode mX6_isStation.2.1 6 = .ok (.ireturn, 1) := by decide +kernel
theorem dX6_in_0 : decode mX6_in.2.1 0 = .ok (.iconst 0, 1) := by decide +kernel
theorem dX6_in_1 : decode mX6_in.2.1 1 = .ok (.istore_n 3, 1) := by decide +kernel
theorem dX6_in_2 : decode mX6_in.2.1 2 = .ok (.iload_n 3, 1) := by decide +kernel
theorem dX6_in_3 : decode mX6_in.2.1 3 = .ok (.bipush 60, 2) := by decide +kernel
theorem dX6_in_5 : decode mX6_in.2.1 5 = .ok (.if_icmp .ge 41, 3) := by decide +kernel
theorem dX6_in_8 : decode mX6_in.2.1 8 = .ok (.aload_n 0, 1) := by decide +kernel
theorem dX6_in_9 : decode mX6_in.2.1 9 = .ok (.getfield 7, 3) := by decide +kernel
theorem dX6_in_12 : decode mX6_in.2.1 12 = .ok (.iload_n 3, 1) := by decide +kernel
theorem dX6_in_13 : decode mX6_in.2.1 13 = .ok (.iaload, 1) := by decide +kernel
theorem dX6_in_14 : decode mX6_in.2.1 14 = .ok (.iconst 2, 1) := by decide +kernel
theorem dX6_in_15 : decode mX6_in.2.1 15 = .ok (.if_icmp .ne 25, 3) := by decide +kernel
theorem dX6_in_18 : decode mX6_in.2.1 18 = .ok (.aload_n 0, 1) := by decide +kernel
theorem dX6_in_19 : decode mX6_in.2.1 19 = .ok (.getfield 16, 3) := by decide +kernel
theorem dX6_in_22 : decode mX6_in.2.1 22 = .ok (.iload_n 3, 1) := by decide +kernel
theorem dX6_in_23 : decode mX6_in.2.1 23 = .ok (.iaload, 1) := by decide +kernel
theorem dX6_in_24 : decode mX6_in.2.1 24 = .ok (.iload_n 1, 1) := by decide +kernel
theorem dX6_in_25 : decode mX6_in.2.1 25 = .ok (.if_icmp .ne 15, 3) := by decide +kernel
theorem dX6_in_28 : decode mX6_in.2.1 28 = .ok (.aload_n 0, 1) := by decide +kernel
theorem dX6_in_29 : decode mX6_in.2.1 29 = .ok (.getfield 13, 3) := by decide +kernel
theorem dX6_in_32 : decode mX6_in.2.1 32 = .ok (.iload_n 3, 1) := by decide +kernel
theorem dX6_in_33 : decode mX6_in.2.1 33 = .ok (.iaload, 1) := by decide +kernel
theorem dX6_in_34 : decode mX6_in.2.1 34 = .ok (.iload_n 2, 1) := by decide +kernel
theorem dX6_in_35 : decode mX6_in.2.1 35 = .ok (.if_icmp .ne 5, 3) := by decide +kernel
theorem dX6_in_38 : decode mX6_in.2.1 38 = .ok (.iload_n 3, 1) := by decide +kernel
theorem dX6_in_39 : decode mX6_in.2.1 39 = .ok (.ireturn, 1) := by decide +kernel
theorem dX6_in_40 : decode mX6_in.2.1 40 = .ok (.iinc 3 1, 3) := by decide +kernel
theorem dX6_in_43 : decode mX6_in.2.1 43 = .ok (.goto (-41), 3) := by decide +kernel
theorem dX6_in_46 : decode mX6_in.2.1 46 = .ok (.iconst (-1), 1) := by decide +kernel
theorem dX6_in_47 : decode mX6_in.2.1 47 = .ok (.ireturn, 1) := by decide +kernel
theorem dX6_many_0 : decode mX6_many.2.1 0 = .ok (.iconst 0, 1) := by decide +kernel
theorem dX6_many_1 : decode mX6_many.2.1 1 = .ok (.istore_n 2, 1) := by decide +kernel
theorem dX6_many_2 : decode mX6_many.2.1 2 = .ok (.iconst 0, 1) := by decide +kernel
theorem dX6_many_3 : decode mX6_many.2.1 3 = .ok (.istore_n 3, 1) := by decide +kernel
theorem dX6_many_4 : decode mX6_many.2.1 4 = .ok (.iload_n 3, 1) := by decide +kernel
theorem dX6_many_5 : decode mX6_many.2.1 5 = .ok (.bipush 60, 2) := by decide +kernel
theorem dX6_many_7 : decode mX6_many.2.1 7 = .ok (.if_icmp .ge 27, 3) := by decide +kernel
theorem dX6_many_10 : decode mX6_many.2.1 10 = .ok (.iload_n 2, 1) := by decide +kernel
theorem dX6_many_11 : decode mX6_many.2.1 11 = .ok (.aload_n 0, 1) := by decide +kernel
theorem dX6_many_12 : decode mX6_many.2.1 12 = .ok (.getfield 7, 3) := by decide +kernel
theorem dX6_many_15 : decode mX6_many.2.1 15 = .ok (.iload_n 3, 1) := by decide +kernel
theorem dX6_many_16 : decode mX6_many.2.1 16 = .ok (.iaload, 1) := by decide +kernel
theorem dX6_many_17 : decode mX6_many.2.1 17 = .ok (.iload_n 1, 1) := by decide +kernel
theorem dX6_many_18 : decode mX6_many.2.1 18 = .ok (.if_icmp .ne 7, 3) := by decide +kernel
theorem dX6_many_21 : decode mX6_many.2.1 21 = .ok (.iconst 1, 1) := by decide +kernel
theorem dX6_many_22 : decode mX6_many.2.1 22 = .ok (.goto 4, 3) := by decide +kernel
theorem dX6_many_25 : decode mX6_many.2.1 25 = .ok (.iconst 0, 1) := by decide +kernel
theorem dX6_many_26 : decode mX6_many.2.1 26 = .ok (.iadd, 1) := by decide +kernel
theorem dX6_many_27 : decode mX6_many.2.1 27 = .ok (.istore_n 2, 1) := by decide +kernel
theorem dX6_many_28 : decode mX6_many.2.1 28 = .ok (.iinc 3 1, 3) := by decide +kernel
theorem dX6_many_31 : decode mX6_many.2.1 31 = .ok (.goto (-27), 3) := by decide +kernel
theorem dX6_many_34 : decode mX6_many.2.1 34 = .ok (.iload_n 2, 1) := by decide +kernel
theorem dX6_many_35 : decode mX6_many.2.1 35 = .ok (.ireturn, 1) := by decide +kernel
theorem dX6_inZones_0 : decode mX6_inZones.2.1 0 = .ok (.iconst 0, 1) := by decide +kernel
theorem dX6_inZones_1 : decode mX6_inZones.2.1 1 = .ok (.istore_n 2, 1) := by decide +kernel
theorem dX6_inZones_2 : decode mX6_inZones.2.1 2 = .ok (.iconst 0, 1) := by decide +kernel
theorem dX6_inZones_3 : decode mX6_inZones.2.1 3 = .ok (.istore_n 3, 1) := by decide +kernel
theorem dX6_inZones_4 : decode mX6_inZones.2.1 4 = .ok (.iload_n 3, 1) := by decide +kernel
theorem dX6_inZones_5 : decode mX6_inZones.2.1 5 = .ok (.bipush 60, 2) := by decide +kernel
theorem dX6_inZones_7 : decode mX6_inZones.2.1 7 = .ok (.if_icmp .ge 37, 3) := by decide +kernel
theorem dX6_inZones_10 : decode mX6_inZones.2.1 10 = .ok (.iload_n 2, 1) := by decide +kernel
theorem dX6_inZones_11 : decode mX6_inZones.2.1 11 = .ok (.aload_n 0, 1) := by decide +kernel
theorem dX6_inZones_12 : decode mX6_inZones.2.1 12 = .ok (.getfield 7, 3) := by decide +kernel
theorem dX6_inZones_15 : decode mX6_inZones.2.1 15 = .ok (.iload_n 3, 1) := by decide +kernel
theorem dX6_inZones_16 : decode mX6_inZones.2.1 16 = .ok (.iaload, 1) := by decide +kernel
theorem dX6_inZones_17 : decode mX6_inZones.2.1 17 = .ok (.iconst 2, 1) := by decide +kernel
theorem dX6_inZones_18 : decode mX6_inZones.2.1 18 = .ok (.if_icmp .ne 17, 3) := by decide +kernel
theorem dX6_inZones_21 : decode mX6_inZones.2.1 21 = .ok (.aload_n 0, 1) := by decide +kernel
theorem dX6_inZones_22 : decode mX6_inZones.2.1 22 = .ok (.getfield 16, 3) := by decide +kernel
theorem dX6_inZones_25 : decode mX6_inZones.2.1 25 = .ok (.iload_n 3, 1) := by decide +kernel
theorem dX6_inZones_26 : decode mX6_inZones.2.1 26 = .ok (.iaload, 1) := by decide +kernel
theorem dX6_inZones_27 : decode mX6_inZones.2.1 27 = .ok (.iload_n 1, 1) := by decide +kernel
theorem dX6_inZones_28 : decode mX6_inZones.2.1 28 = .ok (.if_icmp .ne 7, 3) := by decide +kernel
theorem dX6_inZones_31 : decode mX6_inZones.2.1 31 = .ok (.iconst 1, 1) := by decide +kernel
theorem dX6_inZones_32 : decode mX6_inZones.2.1 32 = .ok (.goto 4, 3) := by decide +kernel
theorem dX6_inZones_35 : decode mX6_inZones.2.1 35 = .ok (.iconst 0, 1) := by decide +kernel
theorem dX6_inZones_36 : decode mX6_inZones.2.1 36 = .ok (.iadd, 1) := by decide +kernel
theorem dX6_inZones_37 : decode mX6_inZones.2.1 37 = .ok (.istore_n 2, 1) := by decide +kernel
theorem dX6_inZones_38 : decode mX6_inZones.2.1 38 = .ok (.iinc 3 1, 3) := by decide +kernel
theorem dX6_inZones_41 : decode mX6_inZones.2.1 41 = .ok (.goto (-37), 3) := by decide +kernel
theorem dX6_inZones_44 : decode mX6_inZones.2.1 44 = .ok (.iload_n 2, 1) := by decide +kernel
theorem dX6_inZones_45 : decode mX6_inZones.2.1 45 = .ok (.ireturn, 1) := by decide +kernel
theorem dX6_letGo_0 : decode mX6_letGo.2.1 0 = .ok (.iconst 0, 1) := by decide +kernel
theorem dX6_letGo_1 : decode mX6_letGo.2.1 1 = .ok (.istore_n 1, 1) := by decide +kernel
theorem dX6_letGo_2 : decode mX6_letGo.2.1 2 = .ok (.iload_n 1, 1) := by decide +kernel
theorem dX6_letGo_3 : decode mX6_letGo.2.1 3 = .ok (.bipush 60, 2) := by decide +kernel
theorem dX6_letGo_5 : decode mX6_letGo.2.1 5 = .ok (.if_icmp .ge 64, 3) := by decide +kernel
theorem dX6_letGo_8 : decode mX6_letGo.2.1 8 = .ok (.aload_n 0, 1) := by decide +kernel
theorem dX6_letGo_9 : decode mX6_letGo.2.1 9 = .ok (.getfield 7, 3) := by decide +kernel
theorem dX6_letGo_12 : decode mX6_letGo.2.1 12 = .ok (.iload_n 1, 1) := by decide +kernel
theorem dX6_letGo_13 : decode mX6_letGo.2.1 13 = .ok (.iaload, 1) := by decide +kernel
theorem dX6_letGo_14 : decode mX6_letGo.2.1 14 = .ok (.iconst 3, 1) := by decide +kernel
theorem dX6_letGo_15 : decode mX6_letGo.2.1 15 = .ok (.if_icmp .ne 48, 3) := by decide +kernel
theorem dX6_letGo_18 : decode mX6_letGo.2.1 18 = .ok (.aload_n 0, 1) := by decide +kernel
theorem dX6_letGo_19 : decode mX6_letGo.2.1 19 = .ok (.getfield 13, 3) := by decide +kernel
theorem dX6_letGo_22 : decode mX6_letGo.2.1 22 = .ok (.iload_n 1, 1) := by decide +kernel
theorem dX6_letGo_23 : decode mX6_letGo.2.1 23 = .ok (.iaload, 1) := by decide +kernel
theorem dX6_letGo_24 : decode mX6_letGo.2.1 24 = .ok (.sipush 5700, 3) := by decide +kernel
theorem dX6_letGo_27 : decode mX6_letGo.2.1 27 = .ok (.if_icmp .ne 36, 3) := by decide +kernel
theorem dX6_letGo_30 : decode mX6_letGo.2.1 30 = .ok (.aload_n 0, 1) := by decide +kernel
theorem dX6_letGo_31 : decode mX6_letGo.2.1 31 = .ok (.iconst 1, 1) := by decide +kernel
theorem dX6_letGo_32 : decode mX6_letGo.2.1 32 = .ok (.aload_n 0, 1) := by decide +kernel
theorem dX6_letGo_33 : decode mX6_letGo.2.1 33 = .ok (.getfield 16, 3) := by decide +kernel
theorem dX6_letGo_36 : decode mX6_letGo.2.1 36 = .ok (.iload_n 1, 1) := by decide +kernel
theorem dX6_letGo_37 : decode mX6_letGo.2.1 37 = .ok (.iaload, 1) := by decide +kernel
theorem dX6_letGo_38 : decode mX6_letGo.2.1 38 = .ok (.isub, 1) := by decide +kernel
theorem dX6_letGo_39 : decode mX6_letGo.2.1 39 = .ok (.iconst 1, 1) := by decide +kernel
theorem dX6_letGo_40 : decode mX6_letGo.2.1 40 = .ok (.invokevirtual 54, 3) := by decide +kernel
theorem dX6_letGo_43 : decode mX6_letGo.2.1 43 = .ok (.ifCond .lt 6, 3) := by decide +kernel
theorem dX6_letGo_46 : decode mX6_letGo.2.1 46 = .ok (.goto 17, 3) := by decide +kernel
theorem dX6_letGo_49 : decode mX6_letGo.2.1 49 = .ok (.aload_n 0, 1) := by decide +kernel
theorem dX6_letGo_50 : decode mX6_letGo.2.1 50 = .ok (.iload_n 1, 1) := by decide +kernel
theorem dX6_letGo_51 : decode mX6_letGo.2.1 51 = .ok (.iconst 1, 1) := by decide +kernel
theorem dX6_letGo_52 : decode mX6_letGo.2.1 52 = .ok (.aload_n 0, 1) := by decide +kernel
theorem dX6_letGo_53 : decode mX6_letGo.2.1 53 = .ok (.getfield 16, 3) := by decide +kernel
theorem dX6_letGo_56 : decode mX6_letGo.2.1 56 = .ok (.iload_n 1, 1) := by decide +kernel
theorem dX6_letGo_57 : decode mX6_letGo.2.1 57 = .ok (.iaload, 1) := by decide +kernel
theorem dX6_letGo_58 : decode mX6_letGo.2.1 58 = .ok (.isub, 1) := by decide +kernel
theorem dX6_letGo_59 : decode mX6_letGo.2.1 59 = .ok (.iconst 1, 1) := by decide +kernel
theorem dX6_letGo_60 : decode mX6_letGo.2.1 60 = .ok (.invokevirtual 58, 3) := by decide +kernel
theorem dX6_letGo_63 : decode mX6_letGo.2.1 63 = .ok (.iinc 1 1, 3) := by decide +kernel
theorem dX6_letGo_66 : decode mX6_letGo.2.1 66 = .ok (.goto (-64), 3) := by decide +kernel
theorem dX6_letGo_69 : decode mX6_letGo.2.1 69 = .ok (.return_, 1) := by decide +kernel
theorem dX6_enter_0 : decode mX6_enter.2.1 0 = .ok (.aload_n 0, 1) := by decide +kernel
theorem dX6_enter_1 : decode mX6_enter.2.1 1 = .ok (.getfield 7, 3) := by decide +kernel
theorem dX6_enter_4 : decode mX6_enter.2.1 4 = .ok (.iload_n 1, 1) := by decide +kernel
theorem dX6_enter_5 : decode mX6_enter.2.1 5 = .ok (.iconst 2, 1) := by decide +kernel
theorem dX6_enter_6 : decode mX6_enter.2.1 6 = .ok (.iastore, 1) := by decide +kernel
theorem dX6_enter_7 : decode mX6_enter.2.1 7 = .ok (.aload_n 0, 1) := by decide +kernel
theorem dX6_enter_8 : decode mX6_enter.2.1 8 = .ok (.getfield 16, 3) := by decide +kernel
theorem dX6_enter_11 : decode mX6_enter.2.1 11 = .ok (.iload_n 1, 1) := by decide +kernel
theorem dX6_enter_12 : decode mX6_enter.2.1 12 = .ok (.iload_n 2, 1) := by decide +kernel
theorem dX6_enter_13 : decode mX6_enter.2.1 13 = .ok (.iastore, 1) := by decide +kernel
theorem dX6_enter_14 : decode mX6_enter.2.1 14 = .ok (.aload_n 0, 1) := by decide +kernel
theorem dX6_enter_15 : decode mX6_enter.2.1 15 = .ok (.getfield 13, 3) := by decide +kernel
theorem dX6_enter_18 : decode mX6_enter.2.1 18 = .ok (.iload_n 1, 1) := by decide +kernel
theorem dX6_enter_19 : decode mX6_enter.2.1 19 = .ok (.iload_n 3, 1) := by decide +kernel
theorem dX6_enter_20 : decode mX6_enter.2.1 20 = .ok (.iastore, 1) := by decide +kernel
theorem dX6_enter_21 : decode mX6_enter.2.1 21 = .ok (.aload_n 0, 1) := by decide +kernel
theorem dX6_enter_22 : decode mX6_enter.2.1 22 = .ok (.getfield 19, 3) := by decide +kernel
theorem dX6_enter_25 : decode mX6_enter.2.1 25 = .ok (.iload_n 1, 1) := by decide +kernel
theorem dX6_enter_26 : decode mX6_enter.2.1 26 = .ok (.iconst 0, 1) := by decide +kernel
theorem dX6_enter_27 : decode mX6_enter.2.1 27 = .ok (.iastore, 1) := by decide +kernel
theorem dX6_enter_28 : decode mX6_enter.2.1 28 = .ok (.return_, 1) := by decide +kernel
theorem dX6_isOver_0 : decode mX6_isOver.2.1 0 = .ok (.iconst 0, 1) := by decide +kernel
theorem dX6_isOver_1 : decode mX6_isOver.2.1 1 = .ok (.istore_n 1, 1) := by decide +kernel
theorem dX6_isOver_2 : decode mX6_isOver.2.1 2 = .ok (.iload_n 1, 1) := by decide +kernel
theorem dX6_isOver_3 : decode mX6_isOver.2.1 3 = .ok (.bipush 60, 2) := by decide +kernel
theorem dX6_isOver_5 : decode mX6_isOver.2.1 5 = .ok (.if_icmp .ge 33, 3) := by decide +kernel
theorem dX6_isOver_8 : decode mX6_isOver.2.1 8 = .ok (.aload_n 0, 1) := by decide +kernel
theorem dX6_isOver_9 : decode mX6_isOver.2.1 9 = .ok (.getfield 7, 3) := by decide +kernel
theorem dX6_isOver_12 : decode mX6_isOver.2.1 12 = .ok (.iload_n 1, 1) := by decide +kernel
theorem dX6_isOver_13 : decode mX6_isOver.2.1 13 = .ok (.iaload, 1) := by decide +kernel
theorem dX6_isOver_14 : decode mX6_isOver.2.1 14 = .ok (.iconst 3, 1) := by decide +kernel
theorem dX6_isOver_15 : decode mX6_isOver.2.1 15 = .ok (.if_icmp .ne 17, 3) := by decide +kernel
theorem dX6_isOver_18 : decode mX6_isOver.2.1 18 = .ok (.aload_n 0, 1) := by decide +kernel
theorem dX6_isOver_19 : decode mX6_isOver.2.1 19 = .ok (.getfield 13, 3) := by decide +kernel
theorem dX6_isOver_22 : decode mX6_isOver.2.1 22 = .ok (.iload_n 1, 1) := by decide +kernel
theorem dX6_isOver_23 : decode mX6_isOver.2.1 23 = .ok (.iaload, 1) := by decide +kernel
theorem dX6_isOver_24 : decode mX6_isOver.2.1 24 = .ok (.sipush 5700, 3) := by decide +kernel
theorem dX6_isOver_27 : decode mX6_isOver.2.1 27 = .ok (.if_icmp .ne 5, 3) := by decide +kernel
theorem dX6_isOver_30 : decode mX6_isOver.2.1 30 = .ok (.iconst 1, 1) := by decide +kernel
theorem dX6_isOver_31 : decode mX6_isOver.2.1 31 = .ok (.ireturn, 1) := by decide +kernel
theorem dX6_isOver_32 : decode mX6_isOver.2.1 32 = .ok (.iinc 1 1, 3) := by decide +kernel
theorem dX6_isOver_35 : decode mX6_isOver.2.1 35 = .ok (.goto (-33), 3) := by decide +kernel
theorem dX6_isOver_38 : decode mX6_isOver.2.1 38 = .ok (.iconst 0, 1) := by decide +kernel
theorem dX6_isOver_39 : decode mX6_isOver.2.1 39 = .ok (.ireturn, 1) := by decide +kernel
theorem dX6_pulse_0 : decode mX6_pulse.2.1 0 = .ok (.aload_n 0, 1) := by decide +kernel
theorem dX6_pulse_1 : decode mX6_pulse.2.1 1 = .ok (.iload_n 1, 1) := by decide +kernel
theorem dX6_pulse_2 : decode mX6_pulse.2.1 2 = .ok (.iconst 0, 1) := by decide +kernel
theorem dX6_pulse_3 : decode mX6_pulse.2.1 3 = .ok (.sipush 600, 3) := by decide +kernel
theorem dX6_pulse_6 : decode mX6_pulse.2.1 6 = .ok (.invokestatic 50, 3) := by decide +kernel
theorem dX6_pulse_9 : decode mX6_pulse.2.1 9 = .ok (.ifCond .ne 7, 3) := by decide +kernel
theorem dX6_pulse_12 : decode mX6_pulse.2.1 12 = .ok (.iconst 1, 1) := by decide +kernel
theorem dX6_pulse_13 : decode mX6_pulse.2.1 13 = .ok (.goto 4, 3) := by decide +kernel
theorem dX6_pulse_16 : decode mX6_pulse.2.1 16 = .ok (.iconst 0, 1) := by decide +kernel
theorem dX6_pulse_17 : decode mX6_pulse.2.1 17 = .ok (.invokevirtual 62, 3) := by decide +kernel
theorem dX6_pulse_20 : decode mX6_pulse.2.1 20 = .ok (.ifCond .eq 5, 3) := by decide +kernel
theorem dX6_pulse_23 : decode mX6_pulse.2.1 23 = .ok (.iconst 0, 1) := by decide +kernel
theorem dX6_pulse_24 : decode mX6_pulse.2.1 24 = .ok (.ireturn, 1) := by decide +kernel
theorem dX6_pulse_25 : decode mX6_pulse.2.1 25 = .ok (.aload_n 0, 1) := by decide +kernel
theorem dX6_pulse_26 : decode mX6_pulse.2.1 26 = .ok (.invokevirtual 66, 3) := by decide +kernel
theorem dX6_pulse_29 : decode mX6_pulse.2.1 29 = .ok (.iconst 0, 1) := by decide +kernel
theorem dX6_pulse_30 : decode mX6_pulse.2.1 30 = .ok (.istore_n 2, 1) := by decide +kernel
theorem dX6_pulse_31 : decode mX6_pulse.2.1 31 = .ok (.iload_n 2, 1) := by decide +kernel
theorem dX6_pulse_32 : decode mX6_pulse.2.1 32 = .ok (.iload_n 1, 1) := by decide +kernel
theorem dX6_pulse_33 : decode mX6_pulse.2.1 33 = .ok (.if_icmp .ge 58, 3) := by decide +kernel
theorem dX6_pulse_36 : decode mX6_pulse.2.1 36 = .ok (.aload_n 0, 1) := by decide +kernel
theorem dX6_pulse_37 : decode mX6_pulse.2.1 37 = .ok (.invokevirtual 69, 3) := by decide +kernel
theorem dX6_pulse_40 : decode mX6_pulse.2.1 40 = .ok (.ifCond .ne 51, 3) := by decide +kernel
theorem dX6_pulse_43 : decode mX6_pulse.2.1 43 = .ok (.iconst 0, 1) := by decide +kernel
theorem dX6_pulse_44 : decode mX6_pulse.2.1 44 = .ok (.istore_n 3, 1) := by decide +kernel
theorem dX6_pulse_45 : decode mX6_pulse.2.1 45 = .ok (.iload_n 3, 1) := by decide +kernel
theorem dX6_pulse_46 : decode mX6_pulse.2.1 46 = .ok (.bipush 60, 2) := by decide +kernel
theorem dX6_pulse_48 : decode mX6_pulse.2.1 48 = .ok (.if_icmp .ge 33, 3) := by decide +kernel
theorem dX6_pulse_51 : decode mX6_pulse.2.1 51 = .ok (.aload_n 0, 1) := by decide +kernel
theorem dX6_pulse_52 : decode mX6_pulse.2.1 52 = .ok (.getfield 13, 3) := by decide +kernel
theorem dX6_pulse_55 : decode mX6_pulse.2.1 55 = .ok (.iload_n 3, 1) := by decide +kernel
theorem dX6_pulse_56 : decode mX6_pulse.2.1 56 = .ok (.dup2, 1) := by decide +kernel
theorem dX6_pulse_57 : decode mX6_pulse.2.1 57 = .ok (.iaload, 1) := by decide +kernel
theorem dX6_pulse_58 : decode mX6_pulse.2.1 58 = .ok (.aload_n 0, 1) := by decide +kernel
theorem dX6_pulse_59 : decode mX6_pulse.2.1 59 = .ok (.getfield 7, 3) := by decide +kernel
theorem dX6_pulse_62 : decode mX6_pulse.2.1 62 = .ok (.iload_n 3, 1) := by decide +kernel
theorem dX6_pulse_63 : decode mX6_pulse.2.1 63 = .ok (.iaload, 1) := by decide +kernel
theorem dX6_pulse_64 : decode mX6_pulse.2.1 64 = .ok (.iconst 3, 1) := by decide +kernel
theorem dX6_pulse_65 : decode mX6_pulse.2.1 65 = .ok (.if_icmp .ne 7, 3) := by decide +kernel
theorem dX6_pulse_68 : decode mX6_pulse.2.1 68 = .ok (.iconst 1, 1) := by decide +kernel
theorem dX6_pulse_69 : decode mX6_pulse.2.1 69 = .ok (.goto 4, 3) := by decide +kernel
theorem dX6_pulse_72 : decode mX6_pulse.2.1 72 = .ok (.iconst 0, 1) := by decide +kernel
theorem dX6_pulse_73 : decode mX6_pulse.2.1 73 = .ok (.iadd, 1) := by decide +kernel
theorem dX6_pulse_74 : decode mX6_pulse.2.1 74 = .ok (.iastore, 1) := by decide +kernel
theorem dX6_pulse_75 : decode mX6_pulse.2.1 75 = .ok (.iinc 3 1, 3) := by decide +kernel
theorem dX6_pulse_78 : decode mX6_pulse.2.1 78 = .ok (.goto (-33), 3) := by decide +kernel
theorem dX6_pulse_81 : decode mX6_pulse.2.1 81 = .ok (.iinc 2 1, 3) := by decide +kernel
theorem dX6_pulse_84 : decode mX6_pulse.2.1 84 = .ok (.aload_n 0, 1) := by decide +kernel
theorem dX6_pulse_85 : decode mX6_pulse.2.1 85 = .ok (.invokevirtual 66, 3) := by decide +kernel
theorem dX6_pulse_88 : decode mX6_pulse.2.1 88 = .ok (.goto (-57), 3) := by decide +kernel
theorem dX6_pulse_91 : decode mX6_pulse.2.1 91 = .ok (.iload_n 2, 1) := by decide +kernel
theorem dX6_pulse_92 : decode mX6_pulse.2.1 92 = .ok (.iload_n 1, 1) := by decide +kernel
theorem dX6_pulse_93 : decode mX6_pulse.2.1 93 = .ok (.if_icmp .ge 14, 3) := by decide +kernel
theorem dX6_pulse_96 : decode mX6_pulse.2.1 96 = .ok (.aload_n 0, 1) := by decide +kernel
theorem dX6_pulse_97 : decode mX6_pulse.2.1 97 = .ok (.aload_n 0, 1) := by decide +kernel
theorem dX6_pulse_98 : decode mX6_pulse.2.1 98 = .ok (.getfield 73, 3) := by decide +kernel
theorem dX6_pulse_101 : decode mX6_pulse.2.1 101 = .ok (.bipush 8, 2) := by decide +kernel
theorem dX6_pulse_103 : decode mX6_pulse.2.1 103 = .ok (.ior, 1) := by decide +kernel
theorem dX6_pulse_104 : decode mX6_pulse.2.1 104 = .ok (.putfield 73, 3) := by decide +kernel
theorem dX6_pulse_107 : decode mX6_pulse.2.1 107 = .ok (.aload_n 0, 1) := by decide +kernel
theorem dX6_pulse_108 : decode mX6_pulse.2.1 108 = .ok (.dup, 1) := by decide +kernel
theorem dX6_pulse_109 : decode mX6_pulse.2.1 109 = .ok (.getfield 76, 3) := by decide +kernel
theorem dX6_pulse_112 : decode mX6_pulse.2.1 112 = .ok (.iload_n 2, 1) := by decide +kernel
theorem dX6_pulse_113 : decode mX6_pulse.2.1 113 = .ok (.iadd, 1) := by decide +kernel
theorem dX6_pulse_114 : decode mX6_pulse.2.1 114 = .ok (.putfield 76, 3) := by decide +kernel
theorem dX6_pulse_117 : decode mX6_pulse.2.1 117 = .ok (.iload_n 2, 1) := by decide +kernel
theorem dX6_pulse_118 : decode mX6_pulse.2.1 118 = .ok (.ireturn, 1) := by decide +kernel
theorem dX6_toSiding_0 : decode mX6_toSiding.2.1 0 = .ok (.aload_n 0, 1) := by decide +kernel
theorem dX6_toSiding_1 : decode mX6_toSiding.2.1 1 = .ok (.getfield 7, 3) := by decide +kernel
theorem dX6_toSiding_4 : decode mX6_toSiding.2.1 4 = .ok (.iload_n 1, 1) := by decide +kernel
theorem dX6_toSiding_5 : decode mX6_toSiding.2.1 5 = .ok (.iconst 1, 1) := by decide +kernel
theorem dX6_toSiding_6 : decode mX6_toSiding.2.1 6 = .ok (.iastore, 1) := by decide +kernel
theorem dX6_toSiding_7 : decode mX6_toSiding.2.1 7 = .ok (.aload_n 0, 1) := by decide +kernel
theorem dX6_toSiding_8 : decode mX6_toSiding.2.1 8 = .ok (.getfield 37, 3) := by decide +kernel
theorem dX6_toSiding_11 : decode mX6_toSiding.2.1 11 = .ok (.aload_n 0, 1) := by decide +kernel
theorem dX6_toSiding_12 : decode mX6_toSiding.2.1 12 = .ok (.getfield 79, 3) := by decide +kernel
theorem dX6_toSiding_15 : decode mX6_toSiding.2.1 15 = .ok (.iload_n 1, 1) := by decide +kernel
theorem dX6_toSiding_16 : decode mX6_toSiding.2.1 16 = .ok (.iastore, 1) := by decide +kernel
theorem dX6_toSiding_17 : decode mX6_toSiding.2.1 17 = .ok (.aload_n 0, 1) := by decide +kernel
theorem dX6_toSiding_18 : decode mX6_toSiding.2.1 18 = .ok (.dup, 1) := by decide +kernel
theorem dX6_toSiding_19 : decode mX6_toSiding.2.1 19 = .ok (.getfield 79, 3) := by decide +kernel
theorem dX6_toSiding_22 : decode mX6_toSiding.2.1 22 = .ok (.iconst 1, 1) := by decide +kernel
theorem dX6_toSiding_23 : decode mX6_toSiding.2.1 23 = .ok (.iadd, 1) := by decide +kernel
theorem dX6_toSiding_24 : decode mX6_toSiding.2.1 24 = .ok (.putfield 79, 3) := by decide +kernel
theorem dX6_toSiding_27 : decode mX6_toSiding.2.1 27 = .ok (.return_, 1) := by decide +kernel
theorem dX6_unside_0 : decode mX6_unside.2.1 0 = .ok (.iconst 0, 1) := by decide +kernel
theorem dX6_unside_1 : decode mX6_unside.2.1 1 = .ok (.istore_n 2, 1) := by decide +kernel
theorem dX6_unside_2 : decode mX6_unside.2.1 2 = .ok (.aload_n 0, 1) := by decide +kernel
theorem dX6_unside_3 : decode mX6_unside.2.1 3 = .ok (.getfield 37, 3) := by decide +kernel
theorem dX6_unside_6 : decode mX6_unside.2.1 6 = .ok (.iload_n 2, 1) := by decide +kernel
theorem dX6_unside_7 : decode mX6_unside.2.1 7 = .ok (.iaload, 1) := by decide +kernel
theorem dX6_unside_8 : decode mX6_unside.2.1 8 = .ok (.iload_n 1, 1) := by decide +kernel
theorem dX6_unside_9 : decode mX6_unside.2.1 9 = .ok (.if_icmp .eq 9, 3) := by decide +kernel
theorem dX6_unside_12 : decode mX6_unside.2.1 12 = .ok (.iinc 2 1, 3) := by decide +kernel
theorem dX6_unside_15 : decode mX6_unside.2.1 15 = .ok (.goto (-13), 3) := by decide +kernel
theorem dX6_unside_18 : decode mX6_unside.2.1 18 = .ok (.aload_n 0, 1) := by decide +kernel
theorem dX6_unside_19 : decode mX6_unside.2.1 19 = .ok (.dup, 1) := by decide +kernel
theorem dX6_unside_20 : decode mX6_unside.2.1 20 = .ok (.getfield 79, 3) := by decide +kernel
theorem dX6_unside_23 : decode mX6_unside.2.1 23 = .ok (.iconst 1, 1) := by decide +kernel
theorem dX6_unside_24 : decode mX6_unside.2.1 24 = .ok (.isub, 1) := by decide +kernel
theorem dX6_unside_25 : decode mX6_unside.2.1 25 = .ok (.putfield 79, 3) := by decide +kernel
theorem dX6_unside_28 : decode mX6_unside.2.1 28 = .ok (.iload_n 2, 1) := by decide +kernel
theorem dX6_unside_29 : decode mX6_unside.2.1 29 = .ok (.istore_n 3, 1) := by decide +kernel
theorem dX6_unside_30 : decode mX6_unside.2.1 30 = .ok (.iload_n 3, 1) := by decide +kernel
theorem dX6_unside_31 : decode mX6_unside.2.1 31 = .ok (.aload_n 0, 1) := by decide +kernel
theorem dX6_unside_32 : decode mX6_unside.2.1 32 = .ok (.getfield 79, 3) := by decide +kernel
theorem dX6_unside_35 : decode mX6_unside.2.1 35 = .ok (.if_icmp .ge 23, 3) := by decide +kernel
theorem dX6_unside_38 : decode mX6_unside.2.1 38 = .ok (.aload_n 0, 1) := by decide +kernel
theorem dX6_unside_39 : decode mX6_unside.2.1 39 = .ok (.getfield 37, 3) := by decide +kernel
theorem dX6_unside_42 : decode mX6_unside.2.1 42 = .ok (.iload_n 3, 1) := by decide +kernel
theorem dX6_unside_43 : decode mX6_unside.2.1 43 = .ok (.aload_n 0, 1) := by decide +kernel
theorem dX6_unside_44 : decode mX6_unside.2.1 44 = .ok (.getfield 37, 3) := by decide +kernel
theorem dX6_unside_47 : decode mX6_unside.2.1 47 = .ok (.iload_n 3, 1) := by decide +kernel
theorem dX6_unside_48 : decode mX6_unside.2.1 48 = .ok (.iconst 1, 1) := by decide +kernel
theorem dX6_unside_49 : decode mX6_unside.2.1 49 = .ok (.iadd, 1) := by decide +kernel
theorem dX6_unside_50 : decode mX6_unside.2.1 50 = .ok (.iaload, 1) := by decide +kernel
theorem dX6_unside_51 : decode mX6_unside.2.1 51 = .ok (.iastore, 1) := by decide +kernel
theorem dX6_unside_52 : decode mX6_unside.2.1 52 = .ok (.iinc 3 1, 3) := by decide +kernel
theorem dX6_unside_55 : decode mX6_unside.2.1 55 = .ok (.goto (-25), 3) := by decide +kernel
theorem dX6_unside_58 : decode mX6_unside.2.1 58 = .ok (.return_, 1) := by decide +kernel
theorem dX6_middle_0 : decode mX6_middle.2.1 0 = .ok (.aload_n 0, 1) := by decide +kernel
theorem dX6_middle_1 : decode mX6_middle.2.1 1 = .ok (.getfield 82, 3) := by decide +kernel
theorem dX6_middle_4 : decode mX6_middle.2.1 4 = .ok (.iconst 5, 1) := by decide +kernel
theorem dX6_middle_5 : decode mX6_middle.2.1 5 = .ok (.if_icmp .ge 10, 3) := by decide +kernel
theorem dX6_middle_8 : decode mX6_middle.2.1 8 = .ok (.aload_n 0, 1) := by decide +kernel
theorem dX6_middle_9 : decode mX6_middle.2.1 9 = .ok (.getfield 82, 3) := by decide +kernel
theorem dX6_middle_12 : decode mX6_middle.2.1 12 = .ok (.goto 4, 3) := by decide +kernel
theorem dX6_middle_15 : decode mX6_middle.2.1 15 = .ok (.iconst 5, 1) := by decide +kernel
theorem dX6_middle_16 : decode mX6_middle.2.1 16 = .ok (.istore_n 1, 1) := by decide +kernel
theorem dX6_middle_17 : decode mX6_middle.2.1 17 = .ok (.iconst 0, 1) := by decide +kernel
theorem dX6_middle_18 : decode mX6_middle.2.1 18 = .ok (.istore_n 2, 1) := by decide +kernel
theorem dX6_middle_19 : decode mX6_middle.2.1 19 = .ok (.iconst 0, 1) := by decide +kernel
theorem dX6_middle_20 : decode mX6_middle.2.1 20 = .ok (.istore_n 3, 1) := by decide +kernel
theorem dX6_middle_21 : decode mX6_middle.2.1 21 = .ok (.iload_n 3, 1) := by decide +kernel
theorem dX6_middle_22 : decode mX6_middle.2.1 22 = .ok (.iload_n 1, 1) := by decide +kernel
theorem dX6_middle_23 : decode mX6_middle.2.1 23 = .ok (.if_icmp .ge 105, 3) := by decide +kernel
theorem dX6_middle_26 : decode mX6_middle.2.1 26 = .ok (.iconst 0, 1) := by decide +kernel
theorem dX6_middle_27 : decode mX6_middle.2.1 27 = .ok (.istore 4, 2) := by decide +kernel
theorem dX6_middle_29 : decode mX6_middle.2.1 29 = .ok (.iconst 0, 1) := by decide +kernel
theorem dX6_middle_30 : decode mX6_middle.2.1 30 = .ok (.istore 5, 2) := by decide +kernel
theorem dX6_middle_32 : decode mX6_middle.2.1 32 = .ok (.iconst 0, 1) := by decide +kernel
theorem dX6_middle_33 : decode mX6_middle.2.1 33 = .ok (.istore 6, 2) := by decide +kernel
theorem dX6_middle_35 : decode mX6_middle.2.1 35 = .ok (.iload 6, 2) := by decide +kernel
theorem dX6_middle_37 : decode mX6_middle.2.1 37 = .ok (.iload_n 1, 1) := by decide +kernel
theorem dX6_middle_38 : decode mX6_middle.2.1 38 = .ok (.if_icmp .ge 61, 3) := by decide +kernel
theorem dX6_middle_41 : decode mX6_middle.2.1 41 = .ok (.iload 4, 2) := by decide +kernel
theorem dX6_middle_43 : decode mX6_middle.2.1 43 = .ok (.aload_n 0, 1) := by decide +kernel
theorem dX6_middle_44 : decode mX6_middle.2.1 44 = .ok (.getfield 40, 3) := by decide +kernel
theorem dX6_middle_47 : decode mX6_middle.2.1 47 = .ok (.iload 6, 2) := by decide +kernel
theorem dX6_middle_49 : decode mX6_middle.2.1 49 = .ok (.iaload, 1) := by decide +kernel
theorem dX6_middle_50 : decode mX6_middle.2.1 50 = .ok (.aload_n 0, 1) := by decide +kernel
theorem dX6_middle_51 : decode mX6_middle.2.1 51 = .ok (.getfield 40, 3) := by decide +kernel
theorem dX6_middle_54 : decode mX6_middle.2.1 54 = .ok (.iload_n 3, 1) := by decide +kernel
theorem dX6_middle_55 : decode mX6_middle.2.1 55 = .ok (.iaload, 1) := by decide +kernel
theorem dX6_middle_56 : decode mX6_middle.2.1 56 = .ok (.if_icmp .ge 7, 3) := by decide +kernel
theorem dX6_middle_59 : decode mX6_middle.2.1 59 = .ok (.iconst 1, 1) := by decide +kernel
theorem dX6_middle_60 : decode mX6_middle.2.1 60 = .ok (.goto 4, 3) := by decide +kernel
theorem dX6_middle_63 : decode mX6_middle.2.1 63 = .ok (.iconst 0, 1) := by decide +kernel
theorem dX6_middle_64 : decode mX6_middle.2.1 64 = .ok (.iadd, 1) := by decide +kernel
theorem dX6_middle_65 : decode mX6_middle.2.1 65 = .ok (.istore 4, 2) := by decide +kernel
theorem dX6_middle_67 : decode mX6_middle.2.1 67 = .ok (.iload 5, 2) := by decide +kernel
theorem dX6_middle_69 : decode mX6_middle.2.1 69 = .ok (.aload_n 0, 1) := by decide +kernel
theorem dX6_middle_70 : decode mX6_middle.2.1 70 = .ok (.getfield 40, 3) := by decide +kernel
theorem dX6_middle_73 : decode mX6_middle.2.1 73 = .ok (.iload 6, 2) := by decide +kernel
theorem dX6_middle_75 : decode mX6_middle.2.1 75 = .ok (.iaload, 1) := by decide +kernel
theorem dX6_middle_76 : decode mX6_middle.2.1 76 = .ok (.aload_n 0, 1) := by decide +kernel
theorem dX6_middle_77 : decode mX6_middle.2.1 77 = .ok (.getfield 40, 3) := by decide +kernel
theorem dX6_middle_80 : decode mX6_middle.2.1 80 = .ok (.iload_n 3, 1) := by decide +kernel
theorem dX6_middle_81 : decode mX6_middle.2.1 81 = .ok (.iaload, 1) := by decide +kernel
theorem dX6_middle_82 : decode mX6_middle.2.1 82 = .ok (.if_icmp .gt 7, 3) := by decide +kernel
theorem dX6_middle_85 : decode mX6_middle.2.1 85 = .ok (.iconst 1, 1) := by decide +kernel
theorem dX6_middle_86 : decode mX6_middle.2.1 86 = .ok (.goto 4, 3) := by decide +kernel
theorem dX6_middle_89 : decode mX6_middle.2.1 89 = .ok (.iconst 0, 1) := by decide +kernel
theorem dX6_middle_90 : decode mX6_middle.2.1 90 = .ok (.iadd, 1) := by decide +kernel
theorem dX6_middle_91 : decode mX6_middle.2.1 91 = .ok (.istore 5, 2) := by decide +kernel
theorem dX6_middle_93 : decode mX6_middle.2.1 93 = .ok (.iinc 6 1, 3) := by decide +kernel
theorem dX6_middle_96 : decode mX6_middle.2.1 96 = .ok (.goto (-61), 3) := by decide +kernel
theorem dX6_middle_99 : decode mX6_middle.2.1 99 = .ok (.iload 4, 2) := by decide +kernel
theorem dX6_middle_101 : decode mX6_middle.2.1 101 = .ok (.iload_n 1, 1) := by decide +kernel
theorem dX6_middle_102 : decode mX6_middle.2.1 102 = .ok (.iconst 2, 1) := by decide +kernel
theorem dX6_middle_103 : decode mX6_middle.2.1 103 = .ok (.idiv, 1) := by decide +kernel
theorem dX6_middle_104 : decode mX6_middle.2.1 104 = .ok (.if_icmp .gt 18, 3) := by decide +kernel
theorem dX6_middle_107 : decode mX6_middle.2.1 107 = .ok (.iload_n 1, 1) := by decide +kernel
theorem dX6_middle_108 : decode mX6_middle.2.1 108 = .ok (.iconst 2, 1) := by decide +kernel
theorem dX6_middle_109 : decode mX6_middle.2.1 109 = .ok (.idiv, 1) := by decide +kernel
theorem dX6_middle_110 : decode mX6_middle.2.1 110 = .ok (.iload 5, 2) := by decide +kernel
theorem dX6_middle_112 : decode mX6_middle.2.1 112 = .ok (.if_icmp .ge 10, 3) := by decide +kernel
theorem dX6_middle_115 : decode mX6_middle.2.1 115 = .ok (.aload_n 0, 1) := by decide +kernel
theorem dX6_middle_116 : decode mX6_middle.2.1 116 = .ok (.getfield 40, 3) := by decide +kernel
theorem dX6_middle_119 : decode mX6_middle.2.1 119 = .ok (.iload_n 3, 1) := by decide +kernel
theorem dX6_middle_120 : decode mX6_middle.2.1 120 = .ok (.iaload, 1) := by decide +kernel
theorem dX6_middle_121 : decode mX6_middle.2.1 121 = .ok (.istore_n 2, 1) := by decide +kernel
theorem dX6_middle_122 : decode mX6_middle.2.1 122 = .ok (.iinc 3 1, 3) := by decide +kernel
theorem dX6_middle_125 : decode mX6_middle.2.1 125 = .ok (.goto (-104), 3) := by decide +kernel
theorem dX6_middle_128 : decode mX6_middle.2.1 128 = .ok (.iload_n 2, 1) := by decide +kernel
theorem dX6_middle_129 : decode mX6_middle.2.1 129 = .ok (.ireturn, 1) := by decide +kernel
