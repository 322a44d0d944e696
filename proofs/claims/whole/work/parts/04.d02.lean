theorem dD_estimate_88 : decode cD_estimate 88 = .ok (.goto 24, 3) := by decide +kernel
theorem dD_estimate_91 : decode cD_estimate 91 = .ok (.aload_n 0, 1) := by decide +kernel
theorem dD_estimate_92 : decode cD_estimate 92 = .ok (.getfield 51, 3) := by decide +kernel
theorem dD_estimate_95 : decode cD_estimate 95 = .ok (.aload_n 0, 1) := by decide +kernel
theorem dD_estimate_96 : decode cD_estimate 96 = .ok (.getfield 19, 3) := by decide +kernel
theorem dD_estimate_99 : decode cD_estimate 99 = .ok (.getfield 97, 3) := by decide +kernel
theorem dD_estimate_102 : decode cD_estimate 102 = .ok (.aload_n 0, 1) := by decide +kernel
theorem dD_estimate_103 : decode cD_estimate 103 = .ok (.getfield 19, 3) := by decide +kernel
theorem dD_estimate_106 : decode cD_estimate 106 = .ok (.getfield 97, 3) := by decide +kernel
theorem dD_estimate_109 : decode cD_estimate 109 = .ok (.invokevirtual 212, 3) := by decide +kernel
theorem dD_estimate_112 : decode cD_estimate 112 = .ok (.return_, 1) := by decide +kernel
theorem dD_modeBehindInitial_0 : decode cD_modeBehindInitial 0 = .ok (.aload_n 0, 1) := by decide +kernel
theorem dD_modeBehindInitial_1 : decode cD_modeBehindInitial 1 = .ok (.getfield 26, 3) := by decide +kernel
theorem dD_modeBehindInitial_4 : decode cD_modeBehindInitial 4 = .ok (.iconst 0, 1) := by decide +kernel
theorem dD_modeBehindInitial_5 : decode cD_modeBehindInitial 5 = .ok (.invokevirtual 259, 3) := by decide +kernel
theorem dD_modeBehindInitial_8 : decode cD_modeBehindInitial 8 = .ok (.ifCond .ne 14, 3) := by decide +kernel
theorem dD_modeBehindInitial_11 : decode cD_modeBehindInitial 11 = .ok (.aload_n 0, 1) := by decide +kernel
theorem dD_modeBehindInitial_12 : decode cD_modeBehindInitial 12 = .ok (.getfield 26, 3) := by decide +kernel
theorem dD_modeBehindInitial_15 : decode cD_modeBehindInitial 15 = .ok (.iconst 1, 1) := by decide +kernel
theorem dD_modeBehindInitial_16 : decode cD_modeBehindInitial 16 = .ok (.invokevirtual 259, 3) := by decide +kernel
theorem dD_modeBehindInitial_19 : decode cD_modeBehindInitial 19 = .ok (.ifCond .eq 5, 3) := by decide +kernel
theorem dD_modeBehindInitial_22 : decode cD_modeBehindInitial 22 = .ok (.iconst 4, 1) := by decide +kernel
theorem dD_modeBehindInitial_23 : decode cD_modeBehindInitial 23 = .ok (.ireturn, 1) := by decide +kernel
theorem dD_modeBehindInitial_24 : decode cD_modeBehindInitial 24 = .ok (.aload_n 0, 1) := by decide +kernel
theorem dD_modeBehindInitial_25 : decode cD_modeBehindInitial 25 = .ok (.getfield 204, 3) := by decide +kernel
theorem dD_modeBehindInitial_28 : decode cD_modeBehindInitial 28 = .ok (.ifCond .eq 15, 3) := by decide +kernel
theorem dD_modeBehindInitial_31 : decode cD_modeBehindInitial 31 = .ok (.aload_n 0, 1) := by decide +kernel
theorem dD_modeBehindInitial_32 : decode cD_modeBehindInitial 32 = .ok (.getfield 19, 3) := by decide +kernel
theorem dD_modeBehindInitial_35 : decode cD_modeBehindInitial 35 = .ok (.getfield 97, 3) := by decide +kernel
theorem dD_modeBehindInitial_38 : decode cD_modeBehindInitial 38 = .ok (.ifCond .eq 5, 3) := by decide +kernel
theorem dD_modeBehindInitial_41 : decode cD_modeBehindInitial 41 = .ok (.iconst 4, 1) := by decide +kernel
theorem dD_modeBehindInitial_42 : decode cD_modeBehindInitial 42 = .ok (.ireturn, 1) := by decide +kernel
theorem dD_modeBehindInitial_43 : decode cD_modeBehindInitial 43 = .ok (.aload_n 0, 1) := by decide +kernel
theorem dD_modeBehindInitial_44 : decode cD_modeBehindInitial 44 = .ok (.getfield 19, 3) := by decide +kernel
theorem dD_modeBehindInitial_47 : decode cD_modeBehindInitial 47 = .ok (.getfield 118, 3) := by decide +kernel
theorem dD_modeBehindInitial_50 : decode cD_modeBehindInitial 50 = .ok (.ifCond .ne 5, 3) := by decide +kernel
theorem dD_modeBehindInitial_53 : decode cD_modeBehindInitial 53 = .ok (.iconst 0, 1) := by decide +kernel
theorem dD_modeBehindInitial_54 : decode cD_modeBehindInitial 54 = .ok (.ireturn, 1) := by decide +kernel
theorem dD_modeBehindInitial_55 : decode cD_modeBehindInitial 55 = .ok (.aload_n 0, 1) := by decide +kernel
theorem dD_modeBehindInitial_56 : decode cD_modeBehindInitial 56 = .ok (.getfield 204, 3) := by decide +kernel
theorem dD_modeBehindInitial_59 : decode cD_modeBehindInitial 59 = .ok (.ifCond .eq 27, 3) := by decide +kernel
theorem dD_modeBehindInitial_62 : decode cD_modeBehindInitial 62 = .ok (.aload_n 0, 1) := by decide +kernel
theorem dD_modeBehindInitial_63 : decode cD_modeBehindInitial 63 = .ok (.getfield 12, 3) := by decide +kernel
theorem dD_modeBehindInitial_66 : decode cD_modeBehindInitial 66 = .ok (.aload_n 0, 1) := by decide +kernel
theorem dD_modeBehindInitial_67 : decode cD_modeBehindInitial 67 = .ok (.getfield 19, 3) := by decide +kernel
theorem dD_modeBehindInitial_70 : decode cD_modeBehindInitial 70 = .ok (.getfield 90, 3) := by decide +kernel
theorem dD_modeBehindInitial_73 : decode cD_modeBehindInitial 73 = .ok (.invokevirtual 318, 3) := by decide +kernel
theorem dD_modeBehindInitial_76 : decode cD_modeBehindInitial 76 = .ok (.ifCond .eq 10, 3) := by decide +kernel
theorem dD_modeBehindInitial_79 : decode cD_modeBehindInitial 79 = .ok (.aload_n 0, 1) := by decide +kernel
theorem dD_modeBehindInitial_80 : decode cD_modeBehindInitial 80 = .ok (.invokevirtual 321, 3) := by decide +kernel
theorem dD_modeBehindInitial_83 : decode cD_modeBehindInitial 83 = .ok (.goto 4, 3) := by decide +kernel
theorem dD_modeBehindInitial_86 : decode cD_modeBehindInitial 86 = .ok (.iconst 4, 1) := by decide +kernel
theorem dD_modeBehindInitial_87 : decode cD_modeBehindInitial 87 = .ok (.ireturn, 1) := by decide +kernel
theorem dD_modeInOperation_0 : decode cD_modeInOperation 0 = .ok (.aload_n 0, 1) := by decide +kernel
theorem dD_modeInOperation_1 : decode cD_modeInOperation 1 = .ok (.getfield 47, 3) := by decide +kernel
theorem dD_modeInOperation_4 : decode cD_modeInOperation 4 = .ok (.getfield 176, 3) := by decide +kernel
theorem dD_modeInOperation_7 : decode cD_modeInOperation 7 = .ok (.aload_n 0, 1) := by decide +kernel
theorem dD_modeInOperation_8 : decode cD_modeInOperation 8 = .ok (.getfield 12, 3) := by decide +kernel
theorem dD_modeInOperation_11 : decode cD_modeInOperation 11 = .ok (.getfield 324, 3) := by decide +kernel
theorem dD_modeInOperation_14 : decode cD_modeInOperation 14 = .ok (.if_icmp .le 20, 3) := by decide +kernel
theorem dD_modeInOperation_17 : decode cD_modeInOperation 17 = .ok (.aload_n 0, 1) := by decide +kernel
theorem dD_modeInOperation_18 : decode cD_modeInOperation 18 = .ok (.getfield 47, 3) := by decide +kernel
theorem dD_modeInOperation_21 : decode cD_modeInOperation 21 = .ok (.getfield 179, 3) := by decide +kernel
theorem dD_modeInOperation_24 : decode cD_modeInOperation 24 = .ok (.aload_n 0, 1) := by decide +kernel
theorem dD_modeInOperation_25 : decode cD_modeInOperation 25 = .ok (.getfield 12, 3) := by decide +kernel
theorem dD_modeInOperation_28 : decode cD_modeInOperation 28 = .ok (.getfield 327, 3) := by decide +kernel
theorem dD_modeInOperation_31 : decode cD_modeInOperation 31 = .ok (.if_icmp .lt 5, 3) := by decide +kernel
theorem dD_modeInOperation_34 : decode cD_modeInOperation 34 = .ok (.iconst 4, 1) := by decide +kernel
theorem dD_modeInOperation_35 : decode cD_modeInOperation 35 = .ok (.ireturn, 1) := by decide +kernel
theorem dD_modeInOperation_36 : decode cD_modeInOperation 36 = .ok (.aload_n 0, 1) := by decide +kernel
theorem dD_modeInOperation_37 : decode cD_modeInOperation 37 = .ok (.getfield 26, 3) := by decide +kernel
theorem dD_modeInOperation_40 : decode cD_modeInOperation 40 = .ok (.iconst 0, 1) := by decide +kernel
theorem dD_modeInOperation_41 : decode cD_modeInOperation 41 = .ok (.invokevirtual 259, 3) := by decide +kernel
theorem dD_modeInOperation_44 : decode cD_modeInOperation 44 = .ok (.ifCond .ne 8, 3) := by decide +kernel
theorem dD_modeInOperation_47 : decode cD_modeInOperation 47 = .ok (.aload_n 0, 1) := by decide +kernel
theorem dD_modeInOperation_48 : decode cD_modeInOperation 48 = .ok (.invokevirtual 321, 3) := by decide +kernel
theorem dD_modeInOperation_51 : decode cD_modeInOperation 51 = .ok (.ireturn, 1) := by decide +kernel
theorem dD_modeInOperation_52 : decode cD_modeInOperation 52 = .ok (.aload_n 0, 1) := by decide +kernel
theorem dD_modeInOperation_53 : decode cD_modeInOperation 53 = .ok (.getfield 26, 3) := by decide +kernel
theorem dD_modeInOperation_56 : decode cD_modeInOperation 56 = .ok (.iconst 1, 1) := by decide +kernel
theorem dD_modeInOperation_57 : decode cD_modeInOperation 57 = .ok (.invokevirtual 259, 3) := by decide +kernel
theorem dD_modeInOperation_60 : decode cD_modeInOperation 60 = .ok (.ifCond .ne 17, 3) := by decide +kernel
theorem dD_modeInOperation_63 : decode cD_modeInOperation 63 = .ok (.aload_n 0, 1) := by decide +kernel
theorem dD_modeInOperation_64 : decode cD_modeInOperation 64 = .ok (.getfield 26, 3) := by decide +kernel
theorem dD_modeInOperation_67 : decode cD_modeInOperation 67 = .ok (.getfield 182, 3) := by decide +kernel
theorem dD_modeInOperation_70 : decode cD_modeInOperation 70 = .ok (.sipush 960, 3) := by decide +kernel
theorem dD_modeInOperation_73 : decode cD_modeInOperation 73 = .ok (.iand, 1) := by decide +kernel
theorem dD_modeInOperation_74 : decode cD_modeInOperation 74 = .ok (.ifCond .eq 7, 3) := by decide +kernel
theorem dD_modeInOperation_77 : decode cD_modeInOperation 77 = .ok (.iconst 1, 1) := by decide +kernel
theorem dD_modeInOperation_78 : decode cD_modeInOperation 78 = .ok (.goto 4, 3) := by decide +kernel
theorem dD_modeInOperation_81 : decode cD_modeInOperation 81 = .ok (.iconst 0, 1) := by decide +kernel
theorem dD_modeInOperation_82 : decode cD_modeInOperation 82 = .ok (.istore_n 1, 1) := by decide +kernel
theorem dD_modeInOperation_83 : decode cD_modeInOperation 83 = .ok (.iload_n 1, 1) := by decide +kernel
theorem dD_modeInOperation_84 : decode cD_modeInOperation 84 = .ok (.ifCond .eq 7, 3) := by decide +kernel
theorem dD_modeInOperation_87 : decode cD_modeInOperation 87 = .ok (.iconst 4, 1) := by decide +kernel
theorem dD_modeInOperation_88 : decode cD_modeInOperation 88 = .ok (.goto 4, 3) := by decide +kernel
theorem dD_modeInOperation_91 : decode cD_modeInOperation 91 = .ok (.iconst 3, 1) := by decide +kernel
theorem dD_modeInOperation_92 : decode cD_modeInOperation 92 = .ok (.ireturn, 1) := by decide +kernel
theorem dD_modeByAnyFailure_0 : decode cD_modeByAnyFailure 0 = .ok (.aload_n 0, 1) := by decide +kernel
theorem dD_modeByAnyFailure_1 : decode cD_modeByAnyFailure 1 = .ok (.getfield 26, 3) := by decide +kernel
theorem dD_modeByAnyFailure_4 : decode cD_modeByAnyFailure 4 = .ok (.getfield 182, 3) := by decide +kernel
theorem dD_modeByAnyFailure_7 : decode cD_modeByAnyFailure 7 = .ok (.ifCond .ne 7, 3) := by decide +kernel
theorem dD_modeByAnyFailure_10 : decode cD_modeByAnyFailure 10 = .ok (.iconst 1, 1) := by decide +kernel
theorem dD_modeByAnyFailure_11 : decode cD_modeByAnyFailure 11 = .ok (.goto 4, 3) := by decide +kernel
theorem dD_modeByAnyFailure_14 : decode cD_modeByAnyFailure 14 = .ok (.iconst 2, 1) := by decide +kernel
theorem dD_modeByAnyFailure_15 : decode cD_modeByAnyFailure 15 = .ok (.ireturn, 1) := by decide +kernel
theorem dD_giveCommands_0 : decode cD_giveCommands 0 = .ok (.aload_n 0, 1) := by decide +kernel
theorem dD_giveCommands_1 : decode cD_giveCommands 1 = .ok (.getfield 146, 3) := by decide +kernel
theorem dD_giveCommands_4 : decode cD_giveCommands 4 = .ok (.ifCond .eq 10, 3) := by decide +kernel
theorem dD_giveCommands_7 : decode cD_giveCommands 7 = .ok (.aload_n 0, 1) := by decide +kernel
theorem dD_giveCommands_8 : decode cD_giveCommands 8 = .ok (.invokevirtual 330, 3) := by decide +kernel
theorem dD_giveCommands_11 : decode cD_giveCommands 11 = .ok (.goto 14, 3) := by decide +kernel
theorem dD_giveCommands_14 : decode cD_giveCommands 14 = .ok (.aload_n 0, 1) := by decide +kernel
theorem dD_giveCommands_15 : decode cD_giveCommands 15 = .ok (.getfield 204, 3) := by decide +kernel
theorem dD_giveCommands_18 : decode cD_giveCommands 18 = .ok (.ifCond .eq 7, 3) := by decide +kernel
theorem dD_giveCommands_21 : decode cD_giveCommands 21 = .ok (.aload_n 0, 1) := by decide +kernel
theorem dD_giveCommands_22 : decode cD_giveCommands 22 = .ok (.invokevirtual 333, 3) := by decide +kernel
theorem dD_giveCommands_25 : decode cD_giveCommands 25 = .ok (.return_, 1) := by decide +kernel
theorem dD_commandInInitial_0 : decode cD_commandInInitial 0 = .ok (.aload_n 0, 1) := by decide +kernel
theorem dD_commandInInitial_1 : decode cD_commandInInitial 1 = .ok (.aload_n 0, 1) := by decide +kernel
theorem dD_commandInInitial_2 : decode cD_commandInInitial 2 = .ok (.getfield 19, 3) := by decide +kernel
theorem dD_commandInInitial_5 : decode cD_commandInInitial 5 = .ok (.getfield 90, 3) := by decide +kernel
theorem dD_commandInInitial_8 : decode cD_commandInInitial 8 = .ok (.aload_n 0, 1) := by decide +kernel
theorem dD_commandInInitial_9 : decode cD_commandInInitial 9 = .ok (.getfield 12, 3) := by decide +kernel
theorem dD_commandInInitial_12 : decode cD_commandInInitial 12 = .ok (.getfield 336, 3) := by decide +kernel
theorem dD_commandInInitial_15 : decode cD_commandInInitial 15 = .ok (.if_icmp .le 7, 3) := by decide +kernel
theorem dD_commandInInitial_18 : decode cD_commandInInitial 18 = .ok (.iconst 1, 1) := by decide +kernel
theorem dD_commandInInitial_19 : decode cD_commandInInitial 19 = .ok (.goto 4, 3) := by decide +kernel
theorem dD_commandInInitial_22 : decode cD_commandInInitial 22 = .ok (.iconst 0, 1) := by decide +kernel
theorem dD_commandInInitial_23 : decode cD_commandInInitial 23 = .ok (.invokevirtual 339, 3) := by decide +kernel
theorem dD_commandInInitial_26 : decode cD_commandInInitial 26 = .ok (.aload_n 0, 1) := by decide +kernel
theorem dD_commandInInitial_27 : decode cD_commandInInitial 27 = .ok (.getfield 19, 3) := by decide +kernel
theorem dD_commandInInitial_30 : decode cD_commandInInitial 30 = .ok (.getfield 90, 3) := by decide +kernel
theorem dD_commandInInitial_33 : decode cD_commandInInitial 33 = .ok (.aload_n 0, 1) := by decide +kernel
theorem dD_commandInInitial_34 : decode cD_commandInInitial 34 = .ok (.getfield 12, 3) := by decide +kernel
theorem dD_commandInInitial_37 : decode cD_commandInInitial 37 = .ok (.getfield 343, 3) := by decide +kernel
theorem dD_commandInInitial_40 : decode cD_commandInInitial 40 = .ok (.if_icmp .ge 10, 3) := by decide +kernel
theorem dD_commandInInitial_43 : decode cD_commandInInitial 43 = .ok (.aload_n 0, 1) := by decide +kernel
theorem dD_commandInInitial_44 : decode cD_commandInInitial 44 = .ok (.invokevirtual 346, 3) := by decide +kernel
theorem dD_commandInInitial_47 : decode cD_commandInInitial 47 = .ok (.goto 8, 3) := by decide +kernel
theorem dD_commandInInitial_50 : decode cD_commandInInitial 50 = .ok (.aload_n 0, 1) := by decide +kernel
theorem dD_commandInInitial_51 : decode cD_commandInInitial 51 = .ok (.iconst 0, 1) := by decide +kernel
theorem dD_commandInInitial_52 : decode cD_commandInInitial 52 = .ok (.invokevirtual 349, 3) := by decide +kernel
theorem dD_commandInInitial_55 : decode cD_commandInInitial 55 = .ok (.aload_n 0, 1) := by decide +kernel
theorem dD_commandInInitial_56 : decode cD_commandInInitial 56 = .ok (.getfield 40, 3) := by decide +kernel
theorem dD_commandInInitial_59 : decode cD_commandInInitial 59 = .ok (.aload_n 0, 1) := by decide +kernel
theorem dD_commandInInitial_60 : decode cD_commandInInitial 60 = .ok (.getfield 12, 3) := by decide +kernel
theorem dD_commandInInitial_63 : decode cD_commandInInitial 63 = .ok (.aload_n 0, 1) := by decide +kernel
theorem dD_commandInInitial_64 : decode cD_commandInInitial 64 = .ok (.getfield 19, 3) := by decide +kernel
theorem dD_commandInInitial_67 : decode cD_commandInInitial 67 = .ok (.getfield 90, 3) := by decide +kernel
theorem dD_commandInInitial_70 : decode cD_commandInInitial 70 = .ok (.invokevirtual 318, 3) := by decide +kernel
theorem dD_commandInInitial_73 : decode cD_commandInInitial 73 = .ok (.putfield 171, 3) := by decide +kernel
theorem dD_commandInInitial_76 : decode cD_commandInInitial 76 = .ok (.return_, 1) := by decide +kernel
theorem dD_commandInOperation_0 : decode cD_commandInOperation 0 = .ok (.aload_n 0, 1) := by decide +kernel
theorem dD_commandInOperation_1 : decode cD_commandInOperation 1 = .ok (.iconst 0, 1) := by decide +kernel
theorem dD_commandInOperation_2 : decode cD_commandInOperation 2 = .ok (.invokevirtual 339, 3) := by decide +kernel
theorem dD_commandInOperation_5 : decode cD_commandInOperation 5 = .ok (.aload_n 0, 1) := by decide +kernel
theorem dD_commandInOperation_6 : decode cD_commandInOperation 6 = .ok (.getfield 12, 3) := by decide +kernel
theorem dD_commandInOperation_9 : decode cD_commandInOperation 9 = .ok (.getfield 343, 3) := by decide +kernel
theorem dD_commandInOperation_12 : decode cD_commandInOperation 12 = .ok (.aload_n 0, 1) := by decide +kernel
theorem dD_commandInOperation_13 : decode cD_commandInOperation 13 = .ok (.getfield 47, 3) := by decide +kernel
theorem dD_commandInOperation_16 : decode cD_commandInOperation 16 = .ok (.getfield 176, 3) := by decide +kernel
theorem dD_commandInOperation_19 : decode cD_commandInOperation 19 = .ok (.isub, 1) := by decide +kernel
theorem dD_commandInOperation_20 : decode cD_commandInOperation 20 = .ok (.istore_n 1, 1) := by decide +kernel
theorem dD_commandInOperation_21 : decode cD_commandInOperation 21 = .ok (.aload_n 0, 1) := by decide +kernel
theorem dD_commandInOperation_22 : decode cD_commandInOperation 22 = .ok (.getfield 47, 3) := by decide +kernel
theorem dD_commandInOperation_25 : decode cD_commandInOperation 25 = .ok (.getfield 179, 3) := by decide +kernel
theorem dD_commandInOperation_28 : decode cD_commandInOperation 28 = .ok (.aload_n 0, 1) := by decide +kernel
theorem dD_commandInOperation_29 : decode cD_commandInOperation 29 = .ok (.getfield 12, 3) := by decide +kernel
theorem dD_commandInOperation_32 : decode cD_commandInOperation 32 = .ok (.getfield 336, 3) := by decide +kernel
theorem dD_commandInOperation_35 : decode cD_commandInOperation 35 = .ok (.isub, 1) := by decide +kernel
theorem dD_commandInOperation_36 : decode cD_commandInOperation 36 = .ok (.istore_n 2, 1) := by decide +kernel
theorem dD_commandInOperation_37 : decode cD_commandInOperation 37 = .ok (.iload_n 1, 1) := by decide +kernel
theorem dD_commandInOperation_38 : decode cD_commandInOperation 38 = .ok (.ifCond .le 15, 3) := by decide +kernel
theorem dD_commandInOperation_41 : decode cD_commandInOperation 41 = .ok (.iload_n 1, 1) := by decide +kernel
theorem dD_commandInOperation_42 : decode cD_commandInOperation 42 = .ok (.iload_n 2, 1) := by decide +kernel
theorem dD_commandInOperation_43 : decode cD_commandInOperation 43 = .ok (.if_icmp .le 10, 3) := by decide +kernel
theorem dD_commandInOperation_46 : decode cD_commandInOperation 46 = .ok (.aload_n 0, 1) := by decide +kernel
theorem dD_commandInOperation_47 : decode cD_commandInOperation 47 = .ok (.invokevirtual 346, 3) := by decide +kernel
theorem dD_commandInOperation_50 : decode cD_commandInOperation 50 = .ok (.goto 12, 3) := by decide +kernel
theorem dD_commandInOperation_53 : decode cD_commandInOperation 53 = .ok (.iload_n 2, 1) := by decide +kernel
theorem dD_commandInOperation_54 : decode cD_commandInOperation 54 = .ok (.ifCond .le 8, 3) := by decide +kernel
theorem dD_commandInOperation_57 : decode cD_commandInOperation 57 = .ok (.aload_n 0, 1) := by decide +kernel
theorem dD_commandInOperation_58 : decode cD_commandInOperation 58 = .ok (.iconst 0, 1) := by decide +kernel
theorem dD_commandInOperation_59 : decode cD_commandInOperation 59 = .ok (.invokevirtual 349, 3) := by decide +kernel
theorem dD_commandInOperation_62 : decode cD_commandInOperation 62 = .ok (.return_, 1) := by decide +kernel
theorem dD_turnOnGoodPumps_0 : decode cD_turnOnGoodPumps 0 = .ok (.bipush 15, 2) := by decide +kernel
theorem dD_turnOnGoodPumps_2 : decode cD_turnOnGoodPumps 2 = .ok (.aload_n 0, 1) := by decide +kernel
theorem dD_turnOnGoodPumps_3 : decode cD_turnOnGoodPumps 3 = .ok (.getfield 26, 3) := by decide +kernel
theorem dD_turnOnGoodPumps_6 : decode cD_turnOnGoodPumps 6 = .ok (.getfield 182, 3) := by decide +kernel
theorem dD_turnOnGoodPumps_9 : decode cD_turnOnGoodPumps 9 = .ok (.iconst 2, 1) := by decide +kernel
theorem dD_turnOnGoodPumps_10 : decode cD_turnOnGoodPumps 10 = .ok (.ishr, 1) := by decide +kernel
theorem dD_turnOnGoodPumps_11 : decode cD_turnOnGoodPumps 11 = .ok (.iconst (-1), 1) := by decide +kernel
theorem dD_turnOnGoodPumps_12 : decode cD_turnOnGoodPumps 12 = .ok (.ixor, 1) := by decide +kernel
theorem dD_turnOnGoodPumps_13 : decode cD_turnOnGoodPumps 13 = .ok (.iand, 1) := by decide +kernel
theorem dD_turnOnGoodPumps_14 : decode cD_turnOnGoodPumps 14 = .ok (.istore_n 1, 1) := by decide +kernel
theorem dD_turnOnGoodPumps_15 : decode cD_turnOnGoodPumps 15 = .ok (.aload_n 0, 1) := by decide +kernel
theorem dD_turnOnGoodPumps_16 : decode cD_turnOnGoodPumps 16 = .ok (.aload_n 0, 1) := by decide +kernel
theorem dD_turnOnGoodPumps_17 : decode cD_turnOnGoodPumps 17 = .ok (.getfield 33, 3) := by decide +kernel
theorem dD_turnOnGoodPumps_20 : decode cD_turnOnGoodPumps 20 = .ok (.getfield 188, 3) := by decide +kernel
theorem dD_turnOnGoodPumps_23 : decode cD_turnOnGoodPumps 23 = .ok (.iload_n 1, 1) := by decide +kernel
theorem dD_turnOnGoodPumps_24 : decode cD_turnOnGoodPumps 24 = .ok (.ior, 1) := by decide +kernel
theorem dD_turnOnGoodPumps_25 : decode cD_turnOnGoodPumps 25 = .ok (.invokevirtual 349, 3) := by decide +kernel
theorem dD_turnOnGoodPumps_28 : decode cD_turnOnGoodPumps 28 = .ok (.return_, 1) := by decide +kernel
theorem dD_commandPumps_0 : decode cD_commandPumps 0 = .ok (.aload_n 0, 1) := by decide +kernel
theorem dD_commandPumps_1 : decode cD_commandPumps 1 = .ok (.getfield 40, 3) := by decide +kernel
theorem dD_commandPumps_4 : decode cD_commandPumps 4 = .ok (.iload_n 1, 1) := by decide +kernel
theorem dD_commandPumps_5 : decode cD_commandPumps 5 = .ok (.aload_n 0, 1) := by decide +kernel
theorem dD_commandPumps_6 : decode cD_commandPumps 6 = .ok (.getfield 33, 3) := by decide +kernel
theorem dD_commandPumps_9 : decode cD_commandPumps 9 = .ok (.getfield 188, 3) := by decide +kernel
theorem dD_commandPumps_12 : decode cD_commandPumps 12 = .ok (.iconst (-1), 1) := by decide +kernel
theorem dD_commandPumps_13 : decode cD_commandPumps 13 = .ok (.ixor, 1) := by decide +kernel
theorem dD_commandPumps_14 : decode cD_commandPumps 14 = .ok (.iand, 1) := by decide +kernel
theorem dD_commandPumps_15 : decode cD_commandPumps 15 = .ok (.putfield 153, 3) := by decide +kernel
theorem dD_commandPumps_18 : decode cD_commandPumps 18 = .ok (.aload_n 0, 1) := by decide +kernel
theorem dD_commandPumps_19 : decode cD_commandPumps 19 = .ok (.getfield 40, 3) := by decide +kernel
theorem dD_commandPumps_22 : decode cD_commandPumps 22 = .ok (.aload_n 0, 1) := by decide +kernel
theorem dD_commandPumps_23 : decode cD_commandPumps 23 = .ok (.getfield 33, 3) := by decide +kernel
theorem dD_commandPumps_26 : decode cD_commandPumps 26 = .ok (.getfield 188, 3) := by decide +kernel
theorem dD_commandPumps_29 : decode cD_commandPumps 29 = .ok (.iload_n 1, 1) := by decide +kernel
theorem dD_commandPumps_30 : decode cD_commandPumps 30 = .ok (.iconst (-1), 1) := by decide +kernel
theorem dD_commandPumps_31 : decode cD_commandPumps 31 = .ok (.ixor, 1) := by decide +kernel
theorem dD_commandPumps_32 : decode cD_commandPumps 32 = .ok (.iand, 1) := by decide +kernel
theorem dD_commandPumps_33 : decode cD_commandPumps 33 = .ok (.putfield 156, 3) := by decide +kernel
theorem dD_commandPumps_36 : decode cD_commandPumps 36 = .ok (.aload_n 0, 1) := by decide +kernel
theorem dD_commandPumps_37 : decode cD_commandPumps 37 = .ok (.getfield 33, 3) := by decide +kernel
theorem dD_commandPumps_40 : decode cD_commandPumps 40 = .ok (.iload_n 1, 1) := by decide +kernel
theorem dD_commandPumps_41 : decode cD_commandPumps 41 = .ok (.putfield 188, 3) := by decide +kernel
theorem dD_commandPumps_44 : decode cD_commandPumps 44 = .ok (.return_, 1) := by decide +kernel
theorem dD_commandValve_0 : decode cD_commandValve 0 = .ok (.aload_n 0, 1) := by decide +kernel
theorem dD_commandValve_1 : decode cD_commandValve 1 = .ok (.getfield 40, 3) := by decide +kernel
theorem dD_commandValve_4 : decode cD_commandValve 4 = .ok (.iload_n 1, 1) := by decide +kernel
theorem dD_commandValve_5 : decode cD_commandValve 5 = .ok (.ifCond .eq 17, 3) := by decide +kernel
theorem dD_commandValve_8 : decode cD_commandValve 8 = .ok (.aload_n 0, 1) := by decide +kernel
theorem dD_commandValve_9 : decode cD_commandValve 9 = .ok (.getfield 33, 3) := by decide +kernel
theorem dD_commandValve_12 : decode cD_commandValve 12 = .ok (.getfield 191, 3) := by decide +kernel
theorem dD_commandValve_15 : decode cD_commandValve 15 = .ok (.ifCond .ne 7, 3) := by decide +kernel
theorem dD_commandValve_18 : decode cD_commandValve 18 = .ok (.iconst 1, 1) := by decide +kernel
theorem dD_commandValve_19 : decode cD_commandValve 19 = .ok (.goto 4, 3) := by decide +kernel
theorem dD_commandValve_22 : decode cD_commandValve 22 = .ok (.iconst 0, 1) := by decide +kernel
theorem dD_commandValve_23 : decode cD_commandValve 23 = .ok (.putfield 159, 3) := by decide +kernel
theorem dD_commandValve_26 : decode cD_commandValve 26 = .ok (.aload_n 0, 1) := by decide +kernel
theorem dD_commandValve_27 : decode cD_commandValve 27 = .ok (.getfield 40, 3) := by decide +kernel
theorem dD_commandValve_30 : decode cD_commandValve 30 = .ok (.aload_n 0, 1) := by decide +kernel
theorem dD_commandValve_31 : decode cD_commandValve 31 = .ok (.getfield 33, 3) := by decide +kernel
theorem dD_commandValve_34 : decode cD_commandValve 34 = .ok (.getfield 191, 3) := by decide +kernel
theorem dD_commandValve_37 : decode cD_commandValve 37 = .ok (.ifCond .eq 11, 3) := by decide +kernel
theorem dD_commandValve_40 : decode cD_commandValve 40 = .ok (.iload_n 1, 1) := by decide +kernel
theorem dD_commandValve_41 : decode cD_commandValve 41 = .ok (.ifCond .ne 7, 3) := by decide +kernel
theorem dD_commandValve_44 : decode cD_commandValve 44 = .ok (.iconst 1, 1) := by decide +kernel
theorem dD_commandValve_45 : decode cD_commandValve 45 = .ok (.goto 4, 3) := by decide +kernel
theorem dD_commandValve_48 : decode cD_commandValve 48 = .ok (.iconst 0, 1) := by decide +kernel
theorem dD_commandValve_49 : decode cD_commandValve 49 = .ok (.putfield 162, 3) := by decide +kernel
theorem dD_commandValve_52 : decode cD_commandValve 52 = .ok (.aload_n 0, 1) := by decide +kernel
theorem dD_commandValve_53 : decode cD_commandValve 53 = .ok (.getfield 33, 3) := by decide +kernel
theorem dD_commandValve_56 : decode cD_commandValve 56 = .ok (.iload_n 1, 1) := by decide +kernel
theorem dD_commandValve_57 : decode cD_commandValve 57 = .ok (.putfield 191, 3) := by decide +kernel
theorem dD_commandValve_60 : decode cD_commandValve 60 = .ok (.return_, 1) := by decide +kernel
theorem dD_isWithin_0 : decode cD_isWithin 0 = .ok (.iload_n 1, 1) := by decide +kernel
theorem dD_isWithin_1 : decode cD_isWithin 1 = .ok (.iload_n 0, 1) := by decide +kernel
theorem dD_isWithin_2 : decode cD_isWithin 2 = .ok (.if_icmp .gt 12, 3) := by decide +kernel
theorem dD_isWithin_5 : decode cD_isWithin 5 = .ok (.iload_n 0, 1) := by decide +kernel
theorem dD_isWithin_6 : decode cD_isWithin 6 = .ok (.iload_n 2, 1) := by decide +kernel
theorem dD_isWithin_7 : decode cD_isWithin 7 = .ok (.if_icmp .gt 7, 3) := by decide +kernel
theorem dD_isWithin_10 : decode cD_isWithin 10 = .ok (.iconst 1, 1) := by decide +kernel
theorem dD_isWithin_11 : decode cD_isWithin 11 = .ok (.goto 4, 3) := by decide +kernel
theorem dD_isWithin_14 : decode cD_isWithin 14 = .ok (.iconst 0, 1) := by decide +kernel
theorem dD_isWithin_15 : decode cD_isWithin 15 = .ok (.ireturn, 1) := by decide +kernel
theorem dD_hasBit_0 : decode cD_hasBit 0 = .ok (.iload_n 0, 1) := by decide +kernel
theorem dD_hasBit_1 : decode cD_hasBit 1 = .ok (.iload_n 1, 1) := by decide +kernel
theorem dD_hasBit_2 : decode cD_hasBit 2 = .ok (.ishr, 1) := by decide +kernel
theorem dD_hasBit_3 : decode cD_hasBit 3 = .ok (.iconst 1, 1) := by decide +kernel
theorem dD_hasBit_4 : decode cD_hasBit 4 = .ok (.iand, 1) := by decide +kernel
theorem dD_hasBit_5 : decode cD_hasBit 5 = .ok (.ifCond .eq 7, 3) := by decide +kernel
theorem dD_hasBit_8 : decode cD_hasBit 8 = .ok (.iconst 1, 1) := by decide +kernel
theorem dD_hasBit_9 : decode cD_hasBit 9 = .ok (.goto 4, 3) := by decide +kernel
theorem dD_hasBit_12 : decode cD_hasBit 12 = .ok (.iconst 0, 1) := by decide +kernel
theorem dD_hasBit_13 : decode cD_hasBit 13 = .ok (.ireturn, 1) := by decide +kernel
theorem dD_withBit_0 : decode cD_withBit 0 = .ok (.iload_n 2, 1) := by decide +kernel
theorem dD_withBit_1 : decode cD_withBit 1 = .ok (.ifCond .eq 11, 3) := by decide +kernel
theorem dD_withBit_4 : decode cD_withBit 4 = .ok (.iload_n 0, 1) := by decide +kernel
theorem dD_withBit_5 : decode cD_withBit 5 = .ok (.iconst 1, 1) := by decide +kernel
theorem dD_withBit_6 : decode cD_withBit 6 = .ok (.iload_n 1, 1) := by decide +kernel
theorem dD_withBit_7 : decode cD_withBit 7 = .ok (.ishl, 1) := by decide +kernel
theorem dD_withBit_8 : decode cD_withBit 8 = .ok (.ior, 1) := by decide +kernel
theorem dD_withBit_9 : decode cD_withBit 9 = .ok (.goto 10, 3) := by decide +kernel
theorem dD_withBit_12 : decode cD_withBit 12 = .ok (.iload_n 0, 1) := by decide +kernel
theorem dD_withBit_13 : decode cD_withBit 13 = .ok (.iconst 1, 1) := by decide +kernel
theorem dD_withBit_14 : decode cD_withBit 14 = .ok (.iload_n 1, 1) := by decide +kernel
theorem dD_withBit_15 : decode cD_withBit 15 = .ok (.ishl, 1) := by decide +kernel
theorem dD_withBit_16 : decode cD_withBit 16 = .ok (.iconst (-1), 1) := by decide +kernel
theorem dD_withBit_17 : decode cD_withBit 17 = .ok (.ixor, 1) := by decide +kernel
theorem dD_withBit_18 : decode cD_withBit 18 = .ok (.iand, 1) := by decide +kernel
theorem dD_withBit_19 : decode cD_withBit 19 = .ok (.ireturn, 1) := by decide +kernel
theorem dX_init_0 : decode cX_init 0 = .ok (.aload_n 0, 1) := by decide +kernel
theorem dX_init_1 : decode cX_init 1 = .ok (.invokespecial 1, 3) := by decide +kernel
theorem dX_init_4 : decode cX_init 4 = .ok (.aload_n 0, 1) := by decide +kernel
theorem dX_init_5 : decode cX_init 5 = .ok (.bipush 10, 2) := by decide +kernel
theorem dX_init_7 : decode cX_init 7 = .ok (.newarray .boolean, 2) := by decide +kernel
theorem dX_init_9 : decode cX_init 9 = .ok (.putfield 7, 3) := by decide +kernel
theorem dX_init_12 : decode cX_init 12 = .ok (.aload_n 0, 1) := by decide +kernel
theorem dX_init_13 : decode cX_init 13 = .ok (.bipush 10, 2) := by decide +kernel
theorem dX_init_15 : decode cX_init 15 = .ok (.newarray .boolean, 2) := by decide +kernel
theorem dX_init_17 : decode cX_init 17 = .ok (.putfield 13, 3) := by decide +kernel
theorem dX_init_20 : decode cX_init 20 = .ok (.aload_n 0, 1) := by decide +kernel
theorem dX_init_21 : decode cX_init 21 = .ok (.bipush 10, 2) := by decide +kernel
theorem dX_init_23 : decode cX_init 23 = .ok (.newarray .boolean, 2) := by decide +kernel
theorem dX_init_25 : decode cX_init 25 = .ok (.putfield 16, 3) := by decide +kernel
theorem dX_init_28 : decode cX_init 28 = .ok (.aload_n 0, 1) := by decide +kernel
theorem dX_init_29 : decode cX_init 29 = .ok (.iconst 4, 1) := by decide +kernel
theorem dX_init_30 : decode cX_init 30 = .ok (.newarray .boolean, 2) := by decide +kernel
theorem dX_init_32 : decode cX_init 32 = .ok (.putfield 19, 3) := by decide +kernel
theorem dX_init_35 : decode cX_init 35 = .ok (.aload_n 0, 1) := by decide +kernel
theorem dX_init_36 : decode cX_init 36 = .ok (.iconst 4, 1) := by decide +kernel
theorem dX_init_37 : decode cX_init 37 = .ok (.newarray .boolean, 2) := by decide +kernel
theorem dX_init_39 : decode cX_init 39 = .ok (.putfield 22, 3) := by decide +kernel
theorem dX_init_42 : decode cX_init 42 = .ok (.aload_n 0, 1) := by decide +kernel
theorem dX_init_43 : decode cX_init 43 = .ok (.iconst 4, 1) := by decide +kernel
theorem dX_init_44 : decode cX_init 44 = .ok (.newarray .boolean, 2) := by decide +kernel
theorem dX_init_46 : decode cX_init 46 = .ok (.putfield 25, 3) := by decide +kernel
theorem dX_init_49 : decode cX_init 49 = .ok (.aload_n 0, 1) := by decide +kernel
theorem dX_init_50 : decode cX_init 50 = .ok (.iconst 4, 1) := by decide +kernel
theorem dX_init_51 : decode cX_init 51 = .ok (.newarray .boolean, 2) := by decide +kernel
theorem dX_init_53 : decode cX_init 53 = .ok (.putfield 28, 3) := by decide +kernel
theorem dX_init_56 : decode cX_init 56 = .ok (.aload_n 0, 1) := by decide +kernel
theorem dX_init_57 : decode cX_init 57 = .ok (.iconst 4, 1) := by decide +kernel
theorem dX_init_58 : decode cX_init 58 = .ok (.newarray .boolean, 2) := by decide +kernel
theorem dX_init_60 : decode cX_init 60 = .ok (.putfield 31, 3) := by decide +kernel
theorem dX_init_63 : decode cX_init 63 = .ok (.aload_n 0, 1) := by decide +kernel
theorem dX_init_64 : decode cX_init 64 = .ok (.iconst 4, 1) := by decide +kernel
theorem dX_init_65 : decode cX_init 65 = .ok (.newarray .boolean, 2) := by decide +kernel
theorem dX_init_67 : decode cX_init 67 = .ok (.putfield 34, 3) := by decide +kernel
theorem dX_init_70 : decode cX_init 70 = .ok (.aload_n 0, 1) := by decide +kernel
theorem dX_init_71 : decode cX_init 71 = .ok (.bipush 10, 2) := by decide +kernel
theorem dX_init_73 : decode cX_init 73 = .ok (.newarray .boolean, 2) := by decide +kernel
theorem dX_init_75 : decode cX_init 75 = .ok (.putfield 37, 3) := by decide +kernel
theorem dX_init_78 : decode cX_init 78 = .ok (.aload_n 0, 1) := by decide +kernel
theorem dX_init_79 : decode cX_init 79 = .ok (.bipush 10, 2) := by decide +kernel
theorem dX_init_81 : decode cX_init 81 = .ok (.newarray .boolean, 2) := by decide +kernel
theorem dX_init_83 : decode cX_init 83 = .ok (.putfield 40, 3) := by decide +kernel
theorem dX_init_86 : decode cX_init 86 = .ok (.aload_n 0, 1) := by decide +kernel
theorem dX_init_87 : decode cX_init 87 = .ok (.iconst 4, 1) := by decide +kernel
theorem dX_init_88 : decode cX_init 88 = .ok (.newarray .boolean, 2) := by decide +kernel
theorem dX_init_90 : decode cX_init 90 = .ok (.putfield 43, 3) := by decide +kernel
theorem dX_init_93 : decode cX_init 93 = .ok (.aload_n 0, 1) := by decide +kernel
theorem dX_init_94 : decode cX_init 94 = .ok (.sipush 1000, 3) := by decide +kernel
theorem dX_init_97 : decode cX_init 97 = .ok (.bipush 100, 2) := by decide +kernel
theorem dX_init_99 : decode cX_init 99 = .ok (.sipush 400, 3) := by decide +kernel
theorem dX_init_102 : decode cX_init 102 = .ok (.sipush 600, 3) := by decide +kernel
theorem dX_init_105 : decode cX_init 105 = .ok (.sipush 900, 3) := by decide +kernel
theorem dX_init_108 : decode cX_init 108 = .ok (.bipush 50, 2) := by decide +kernel
theorem dX_init_110 : decode cX_init 110 = .ok (.iconst 5, 1) := by decide +kernel
theorem dX_init_111 : decode cX_init 111 = .ok (.iconst 5, 1) := by decide +kernel
theorem dX_init_112 : decode cX_init 112 = .ok (.bipush 15, 2) := by decide +kernel
theorem dX_init_114 : decode cX_init 114 = .ok (.invokevirtual 46, 3) := by decide +kernel
theorem dX_init_117 : decode cX_init 117 = .ok (.return_, 1) := by decide +kernel
theorem dX_thrown_0 : decode cX_thrown 0 = .ok (.aload_n 0, 1) := by decide +kernel
theorem dX_thrown_1 : decode cX_thrown 1 = .ok (.getfield 50, 3) := by decide +kernel
theorem dX_thrown_4 : decode cX_thrown 4 = .ok (.ireturn, 1) := by decide +kernel
theorem dX_in_0 : decode cX_in 0 = .ok (.iload_n 0, 1) := by decide +kernel
theorem dX_in_1 : decode cX_in 1 = .ok (.iload_n 1, 1) := by decide +kernel
theorem dX_in_2 : decode cX_in 2 = .ok (.if_icmp .lt 12, 3) := by decide +kernel
theorem dX_in_5 : decode cX_in 5 = .ok (.iload_n 0, 1) := by decide +kernel
theorem dX_in_6 : decode cX_in 6 = .ok (.iload_n 2, 1) := by decide +kernel
theorem dX_in_7 : decode cX_in 7 = .ok (.if_icmp .gt 7, 3) := by decide +kernel
theorem dX_in_10 : decode cX_in 10 = .ok (.iconst 1, 1) := by decide +kernel
theorem dX_in_11 : decode cX_in 11 = .ok (.goto 4, 3) := by decide +kernel
theorem dX_in_14 : decode cX_in 14 = .ok (.iconst 0, 1) := by decide +kernel
theorem dX_in_15 : decode cX_in 15 = .ok (.ireturn, 1) := by decide +kernel
theorem dX_fails_0 : decode cX_fails 0 = .ok (.iload_n 1, 1) := by decide +kernel
theorem dX_fails_1 : decode cX_fails 1 = .ok (.ifCond .eq 15, 3) := by decide +kernel
theorem dX_fails_4 : decode cX_fails 4 = .ok (.aload_n 0, 1) := by decide +kernel
theorem dX_fails_5 : decode cX_fails 5 = .ok (.getfield 50, 3) := by decide +kernel
theorem dX_fails_8 : decode cX_fails 8 = .ok (.ifCond .ne 8, 3) := by decide +kernel
theorem dX_fails_11 : decode cX_fails 11 = .ok (.aload_n 0, 1) := by decide +kernel
theorem dX_fails_12 : decode cX_fails 12 = .ok (.iload_n 2, 1) := by decide +kernel
theorem dX_fails_13 : decode cX_fails 13 = .ok (.putfield 50, 3) := by decide +kernel
theorem dX_fails_16 : decode cX_fails 16 = .ok (.aload_n 0, 1) := by decide +kernel
theorem dX_fails_17 : decode cX_fails 17 = .ok (.getfield 50, 3) := by decide +kernel
theorem dX_fails_20 : decode cX_fails 20 = .ok (.ifCond .eq 7, 3) := by decide +kernel
theorem dX_fails_23 : decode cX_fails 23 = .ok (.iconst 1, 1) := by decide +kernel
theorem dX_fails_24 : decode cX_fails 24 = .ok (.goto 4, 3) := by decide +kernel
theorem dX_fails_27 : decode cX_fails 27 = .ok (.iconst 0, 1) := by decide +kernel
theorem dX_fails_28 : decode cX_fails 28 = .ok (.ireturn, 1) := by decide +kernel
theorem dX_anew_0 : decode cX_anew 0 = .ok (.aload_n 0, 1) := by decide +kernel
theorem dX_anew_1 : decode cX_anew 1 = .ok (.iload_n 1, 1) := by decide +kernel
theorem dX_anew_2 : decode cX_anew 2 = .ok (.putfield 54, 3) := by decide +kernel
theorem dX_anew_5 : decode cX_anew 5 = .ok (.aload_n 0, 1) := by decide +kernel
theorem dX_anew_6 : decode cX_anew 6 = .ok (.iload_n 2, 1) := by decide +kernel
theorem dX_anew_7 : decode cX_anew 7 = .ok (.putfield 57, 3) := by decide +kernel
theorem dX_anew_10 : decode cX_anew 10 = .ok (.aload_n 0, 1) := by decide +kernel
theorem dX_anew_11 : decode cX_anew 11 = .ok (.iload_n 3, 1) := by decide +kernel
theorem dX_anew_12 : decode cX_anew 12 = .ok (.putfield 60, 3) := by decide +kernel
theorem dX_anew_15 : decode cX_anew 15 = .ok (.aload_n 0, 1) := by decide +kernel
theorem dX_anew_16 : decode cX_anew 16 = .ok (.iload 4, 2) := by decide +kernel
theorem dX_anew_18 : decode cX_anew 18 = .ok (.putfield 63, 3) := by decide +kernel
theorem dX_anew_21 : decode cX_anew 21 = .ok (.aload_n 0, 1) := by decide +kernel
theorem dX_anew_22 : decode cX_anew 22 = .ok (.iload 5, 2) := by decide +kernel
theorem dX_anew_24 : decode cX_anew 24 = .ok (.putfield 66, 3) := by decide +kernel
theorem dX_anew_27 : decode cX_anew 27 = .ok (.aload_n 0, 1) := by decide +kernel
theorem dX_anew_28 : decode cX_anew 28 = .ok (.iload 6, 2) := by decide +kernel
theorem dX_anew_30 : decode cX_anew 30 = .ok (.putfield 69, 3) := by decide +kernel
theorem dX_anew_33 : decode cX_anew 33 = .ok (.aload_n 0, 1) := by decide +kernel
theorem dX_anew_34 : decode cX_anew 34 = .ok (.iload 7, 2) := by decide +kernel
theorem dX_anew_36 : decode cX_anew 36 = .ok (.putfield 72, 3) := by decide +kernel
theorem dX_anew_39 : decode cX_anew 39 = .ok (.aload_n 0, 1) := by decide +kernel
theorem dX_anew_40 : decode cX_anew 40 = .ok (.iload 8, 2) := by decide +kernel
theorem dX_anew_42 : decode cX_anew 42 = .ok (.putfield 75, 3) := by decide +kernel
theorem dX_anew_45 : decode cX_anew 45 = .ok (.aload_n 0, 1) := by decide +kernel
theorem dX_anew_46 : decode cX_anew 46 = .ok (.iload 9, 2) := by decide +kernel
theorem dX_anew_48 : decode cX_anew 48 = .ok (.putfield 78, 3) := by decide +kernel
theorem dX_anew_51 : decode cX_anew 51 = .ok (.aload_n 0, 1) := by decide +kernel
theorem dX_anew_52 : decode cX_anew 52 = .ok (.iconst 0, 1) := by decide +kernel
theorem dX_anew_53 : decode cX_anew 53 = .ok (.putfield 81, 3) := by decide +kernel
theorem dX_anew_56 : decode cX_anew 56 = .ok (.aload_n 0, 1) := by decide +kernel
theorem dX_anew_57 : decode cX_anew 57 = .ok (.iconst 0, 1) := by decide +kernel
theorem dX_anew_58 : decode cX_anew 58 = .ok (.putfield 84, 3) := by decide +kernel
theorem dX_anew_61 : decode cX_anew 61 = .ok (.aload_n 0, 1) := by decide +kernel
theorem dX_anew_62 : decode cX_anew 62 = .ok (.iconst 0, 1) := by decide +kernel
theorem dX_anew_63 : decode cX_anew 63 = .ok (.putfield 87, 3) := by decide +kernel
