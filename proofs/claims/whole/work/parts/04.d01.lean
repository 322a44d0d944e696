theorem dD_startAnew_72 : decode cD_startAnew 72 = .ok (.getfield 216, 3) := by decide +kernel
theorem dD_startAnew_75 : decode cD_startAnew 75 = .ok (.invokevirtual 212, 3) := by decide +kernel
theorem dD_startAnew_78 : decode cD_startAnew 78 = .ok (.return_, 1) := by decide +kernel
theorem dD_runSteps_0 : decode cD_runSteps 0 = .ok (.aload_n 0, 1) := by decide +kernel
theorem dD_runSteps_1 : decode cD_runSteps 1 = .ok (.getfield 26, 3) := by decide +kernel
theorem dD_runSteps_4 : decode cD_runSteps 4 = .ok (.getfield 182, 3) := by decide +kernel
theorem dD_runSteps_7 : decode cD_runSteps 7 = .ok (.istore_n 1, 1) := by decide +kernel
theorem dD_runSteps_8 : decode cD_runSteps 8 = .ok (.aload_n 0, 1) := by decide +kernel
theorem dD_runSteps_9 : decode cD_runSteps 9 = .ok (.invokevirtual 219, 3) := by decide +kernel
theorem dD_runSteps_12 : decode cD_runSteps 12 = .ok (.aload_n 0, 1) := by decide +kernel
theorem dD_runSteps_13 : decode cD_runSteps 13 = .ok (.getfield 201, 3) := by decide +kernel
theorem dD_runSteps_16 : decode cD_runSteps 16 = .ok (.iconst 3, 1) := by decide +kernel
theorem dD_runSteps_17 : decode cD_runSteps 17 = .ok (.if_icmp .ge 13, 3) := by decide +kernel
theorem dD_runSteps_20 : decode cD_runSteps 20 = .ok (.aload_n 0, 1) := by decide +kernel
theorem dD_runSteps_21 : decode cD_runSteps 21 = .ok (.getfield 19, 3) := by decide +kernel
theorem dD_runSteps_24 : decode cD_runSteps 24 = .ok (.invokevirtual 222, 3) := by decide +kernel
theorem dD_runSteps_27 : decode cD_runSteps 27 = .ok (.ifCond .ne 8, 3) := by decide +kernel
theorem dD_runSteps_30 : decode cD_runSteps 30 = .ok (.aload_n 0, 1) := by decide +kernel
theorem dD_runSteps_31 : decode cD_runSteps 31 = .ok (.iconst 4, 1) := by decide +kernel
theorem dD_runSteps_32 : decode cD_runSteps 32 = .ok (.putfield 146, 3) := by decide +kernel
theorem dD_runSteps_35 : decode cD_runSteps 35 = .ok (.aload_n 0, 1) := by decide +kernel
theorem dD_runSteps_36 : decode cD_runSteps 36 = .ok (.getfield 146, 3) := by decide +kernel
theorem dD_runSteps_39 : decode cD_runSteps 39 = .ok (.iconst 4, 1) := by decide +kernel
theorem dD_runSteps_40 : decode cD_runSteps 40 = .ok (.if_icmp .eq 7, 3) := by decide +kernel
theorem dD_runSteps_43 : decode cD_runSteps 43 = .ok (.aload_n 0, 1) := by decide +kernel
theorem dD_runSteps_44 : decode cD_runSteps 44 = .ok (.invokevirtual 226, 3) := by decide +kernel
theorem dD_runSteps_47 : decode cD_runSteps 47 = .ok (.aload_n 0, 1) := by decide +kernel
theorem dD_runSteps_48 : decode cD_runSteps 48 = .ok (.getfield 146, 3) := by decide +kernel
theorem dD_runSteps_51 : decode cD_runSteps 51 = .ok (.iconst 4, 1) := by decide +kernel
theorem dD_runSteps_52 : decode cD_runSteps 52 = .ok (.if_icmp .eq 7, 3) := by decide +kernel
theorem dD_runSteps_55 : decode cD_runSteps 55 = .ok (.aload_n 0, 1) := by decide +kernel
theorem dD_runSteps_56 : decode cD_runSteps 56 = .ok (.invokevirtual 229, 3) := by decide +kernel
theorem dD_runSteps_59 : decode cD_runSteps 59 = .ok (.aload_n 0, 1) := by decide +kernel
theorem dD_runSteps_60 : decode cD_runSteps 60 = .ok (.getfield 146, 3) := by decide +kernel
theorem dD_runSteps_63 : decode cD_runSteps 63 = .ok (.iconst 4, 1) := by decide +kernel
theorem dD_runSteps_64 : decode cD_runSteps 64 = .ok (.if_icmp .eq 38, 3) := by decide +kernel
theorem dD_runSteps_67 : decode cD_runSteps 67 = .ok (.aload_n 0, 1) := by decide +kernel
theorem dD_runSteps_68 : decode cD_runSteps 68 = .ok (.iload_n 1, 1) := by decide +kernel
theorem dD_runSteps_69 : decode cD_runSteps 69 = .ok (.invokevirtual 232, 3) := by decide +kernel
theorem dD_runSteps_72 : decode cD_runSteps 72 = .ok (.aload_n 0, 1) := by decide +kernel
theorem dD_runSteps_73 : decode cD_runSteps 73 = .ok (.invokevirtual 236, 3) := by decide +kernel
theorem dD_runSteps_76 : decode cD_runSteps 76 = .ok (.aload_n 0, 1) := by decide +kernel
theorem dD_runSteps_77 : decode cD_runSteps 77 = .ok (.invokevirtual 239, 3) := by decide +kernel
theorem dD_runSteps_80 : decode cD_runSteps 80 = .ok (.aload_n 0, 1) := by decide +kernel
theorem dD_runSteps_81 : decode cD_runSteps 81 = .ok (.aload_n 0, 1) := by decide +kernel
theorem dD_runSteps_82 : decode cD_runSteps 82 = .ok (.getfield 146, 3) := by decide +kernel
theorem dD_runSteps_85 : decode cD_runSteps 85 = .ok (.ifCond .ne 10, 3) := by decide +kernel
theorem dD_runSteps_88 : decode cD_runSteps 88 = .ok (.aload_n 0, 1) := by decide +kernel
theorem dD_runSteps_89 : decode cD_runSteps 89 = .ok (.invokevirtual 242, 3) := by decide +kernel
theorem dD_runSteps_92 : decode cD_runSteps 92 = .ok (.goto 7, 3) := by decide +kernel
theorem dD_runSteps_95 : decode cD_runSteps 95 = .ok (.aload_n 0, 1) := by decide +kernel
theorem dD_runSteps_96 : decode cD_runSteps 96 = .ok (.invokevirtual 246, 3) := by decide +kernel
theorem dD_runSteps_99 : decode cD_runSteps 99 = .ok (.putfield 146, 3) := by decide +kernel
theorem dD_runSteps_102 : decode cD_runSteps 102 = .ok (.aload_n 0, 1) := by decide +kernel
theorem dD_runSteps_103 : decode cD_runSteps 103 = .ok (.getfield 146, 3) := by decide +kernel
theorem dD_runSteps_106 : decode cD_runSteps 106 = .ok (.iconst 4, 1) := by decide +kernel
theorem dD_runSteps_107 : decode cD_runSteps 107 = .ok (.if_icmp .eq 21, 3) := by decide +kernel
theorem dD_runSteps_110 : decode cD_runSteps 110 = .ok (.aload_n 0, 1) := by decide +kernel
theorem dD_runSteps_111 : decode cD_runSteps 111 = .ok (.getfield 33, 3) := by decide +kernel
theorem dD_runSteps_114 : decode cD_runSteps 114 = .ok (.aload_n 0, 1) := by decide +kernel
theorem dD_runSteps_115 : decode cD_runSteps 115 = .ok (.getfield 19, 3) := by decide +kernel
theorem dD_runSteps_118 : decode cD_runSteps 118 = .ok (.getfield 112, 3) := by decide +kernel
theorem dD_runSteps_121 : decode cD_runSteps 121 = .ok (.invokevirtual 249, 3) := by decide +kernel
theorem dD_runSteps_124 : decode cD_runSteps 124 = .ok (.aload_n 0, 1) := by decide +kernel
theorem dD_runSteps_125 : decode cD_runSteps 125 = .ok (.invokevirtual 252, 3) := by decide +kernel
theorem dD_runSteps_128 : decode cD_runSteps 128 = .ok (.return_, 1) := by decide +kernel
theorem dD_noteWords_0 : decode cD_noteWords 0 = .ok (.aload_n 0, 1) := by decide +kernel
theorem dD_noteWords_1 : decode cD_noteWords 1 = .ok (.aload_n 0, 1) := by decide +kernel
theorem dD_noteWords_2 : decode cD_noteWords 2 = .ok (.getfield 19, 3) := by decide +kernel
theorem dD_noteWords_5 : decode cD_noteWords 5 = .ok (.getfield 121, 3) := by decide +kernel
theorem dD_noteWords_8 : decode cD_noteWords 8 = .ok (.ifCond .eq 12, 3) := by decide +kernel
theorem dD_noteWords_11 : decode cD_noteWords 11 = .ok (.aload_n 0, 1) := by decide +kernel
theorem dD_noteWords_12 : decode cD_noteWords 12 = .ok (.getfield 201, 3) := by decide +kernel
theorem dD_noteWords_15 : decode cD_noteWords 15 = .ok (.iconst 1, 1) := by decide +kernel
theorem dD_noteWords_16 : decode cD_noteWords 16 = .ok (.iadd, 1) := by decide +kernel
theorem dD_noteWords_17 : decode cD_noteWords 17 = .ok (.goto 4, 3) := by decide +kernel
theorem dD_noteWords_20 : decode cD_noteWords 20 = .ok (.iconst 0, 1) := by decide +kernel
theorem dD_noteWords_21 : decode cD_noteWords 21 = .ok (.putfield 201, 3) := by decide +kernel
theorem dD_noteWords_24 : decode cD_noteWords 24 = .ok (.aload_n 0, 1) := by decide +kernel
theorem dD_noteWords_25 : decode cD_noteWords 25 = .ok (.aload_n 0, 1) := by decide +kernel
theorem dD_noteWords_26 : decode cD_noteWords 26 = .ok (.getfield 204, 3) := by decide +kernel
theorem dD_noteWords_29 : decode cD_noteWords 29 = .ok (.ifCond .ne 13, 3) := by decide +kernel
theorem dD_noteWords_32 : decode cD_noteWords 32 = .ok (.aload_n 0, 1) := by decide +kernel
theorem dD_noteWords_33 : decode cD_noteWords 33 = .ok (.getfield 19, 3) := by decide +kernel
theorem dD_noteWords_36 : decode cD_noteWords 36 = .ok (.getfield 115, 3) := by decide +kernel
theorem dD_noteWords_39 : decode cD_noteWords 39 = .ok (.ifCond .eq 7, 3) := by decide +kernel
theorem dD_noteWords_42 : decode cD_noteWords 42 = .ok (.iconst 1, 1) := by decide +kernel
theorem dD_noteWords_43 : decode cD_noteWords 43 = .ok (.goto 4, 3) := by decide +kernel
theorem dD_noteWords_46 : decode cD_noteWords 46 = .ok (.iconst 0, 1) := by decide +kernel
theorem dD_noteWords_47 : decode cD_noteWords 47 = .ok (.putfield 204, 3) := by decide +kernel
theorem dD_noteWords_50 : decode cD_noteWords 50 = .ok (.return_, 1) := by decide +kernel
theorem dD_takeRepairs_0 : decode cD_takeRepairs 0 = .ok (.iconst 0, 1) := by decide +kernel
theorem dD_takeRepairs_1 : decode cD_takeRepairs 1 = .ok (.istore_n 1, 1) := by decide +kernel
theorem dD_takeRepairs_2 : decode cD_takeRepairs 2 = .ok (.iload_n 1, 1) := by decide +kernel
theorem dD_takeRepairs_3 : decode cD_takeRepairs 3 = .ok (.bipush 10, 2) := by decide +kernel
theorem dD_takeRepairs_5 : decode cD_takeRepairs 5 = .ok (.if_icmp .ge 79, 3) := by decide +kernel
theorem dD_takeRepairs_8 : decode cD_takeRepairs 8 = .ok (.aload_n 0, 1) := by decide +kernel
theorem dD_takeRepairs_9 : decode cD_takeRepairs 9 = .ok (.getfield 146, 3) := by decide +kernel
theorem dD_takeRepairs_12 : decode cD_takeRepairs 12 = .ok (.iconst 4, 1) := by decide +kernel
theorem dD_takeRepairs_13 : decode cD_takeRepairs 13 = .ok (.if_icmp .eq 71, 3) := by decide +kernel
theorem dD_takeRepairs_16 : decode cD_takeRepairs 16 = .ok (.aload_n 0, 1) := by decide +kernel
theorem dD_takeRepairs_17 : decode cD_takeRepairs 17 = .ok (.getfield 19, 3) := by decide +kernel
theorem dD_takeRepairs_20 : decode cD_takeRepairs 20 = .ok (.getfield 128, 3) := by decide +kernel
theorem dD_takeRepairs_23 : decode cD_takeRepairs 23 = .ok (.iload_n 1, 1) := by decide +kernel
theorem dD_takeRepairs_24 : decode cD_takeRepairs 24 = .ok (.invokestatic 255, 3) := by decide +kernel
theorem dD_takeRepairs_27 : decode cD_takeRepairs 27 = .ok (.ifCond .ne 6, 3) := by decide +kernel
theorem dD_takeRepairs_30 : decode cD_takeRepairs 30 = .ok (.goto 48, 3) := by decide +kernel
theorem dD_takeRepairs_33 : decode cD_takeRepairs 33 = .ok (.aload_n 0, 1) := by decide +kernel
theorem dD_takeRepairs_34 : decode cD_takeRepairs 34 = .ok (.getfield 26, 3) := by decide +kernel
theorem dD_takeRepairs_37 : decode cD_takeRepairs 37 = .ok (.iload_n 1, 1) := by decide +kernel
theorem dD_takeRepairs_38 : decode cD_takeRepairs 38 = .ok (.invokevirtual 259, 3) := by decide +kernel
theorem dD_takeRepairs_41 : decode cD_takeRepairs 41 = .ok (.ifCond .eq 33, 3) := by decide +kernel
theorem dD_takeRepairs_44 : decode cD_takeRepairs 44 = .ok (.aload_n 0, 1) := by decide +kernel
theorem dD_takeRepairs_45 : decode cD_takeRepairs 45 = .ok (.getfield 26, 3) := by decide +kernel
theorem dD_takeRepairs_48 : decode cD_takeRepairs 48 = .ok (.iload_n 1, 1) := by decide +kernel
theorem dD_takeRepairs_49 : decode cD_takeRepairs 49 = .ok (.invokevirtual 263, 3) := by decide +kernel
theorem dD_takeRepairs_52 : decode cD_takeRepairs 52 = .ok (.aload_n 0, 1) := by decide +kernel
theorem dD_takeRepairs_53 : decode cD_takeRepairs 53 = .ok (.getfield 40, 3) := by decide +kernel
theorem dD_takeRepairs_56 : decode cD_takeRepairs 56 = .ok (.aload_n 0, 1) := by decide +kernel
theorem dD_takeRepairs_57 : decode cD_takeRepairs 57 = .ok (.getfield 40, 3) := by decide +kernel
theorem dD_takeRepairs_60 : decode cD_takeRepairs 60 = .ok (.getfield 168, 3) := by decide +kernel
theorem dD_takeRepairs_63 : decode cD_takeRepairs 63 = .ok (.iload_n 1, 1) := by decide +kernel
theorem dD_takeRepairs_64 : decode cD_takeRepairs 64 = .ok (.iconst 1, 1) := by decide +kernel
theorem dD_takeRepairs_65 : decode cD_takeRepairs 65 = .ok (.invokestatic 105, 3) := by decide +kernel
theorem dD_takeRepairs_68 : decode cD_takeRepairs 68 = .ok (.putfield 168, 3) := by decide +kernel
theorem dD_takeRepairs_71 : decode cD_takeRepairs 71 = .ok (.goto 7, 3) := by decide +kernel
theorem dD_takeRepairs_74 : decode cD_takeRepairs 74 = .ok (.aload_n 0, 1) := by decide +kernel
theorem dD_takeRepairs_75 : decode cD_takeRepairs 75 = .ok (.invokevirtual 266, 3) := by decide +kernel
theorem dD_takeRepairs_78 : decode cD_takeRepairs 78 = .ok (.iinc 1 1, 3) := by decide +kernel
theorem dD_takeRepairs_81 : decode cD_takeRepairs 81 = .ok (.goto (-79), 3) := by decide +kernel
theorem dD_takeRepairs_84 : decode cD_takeRepairs 84 = .ok (.return_, 1) := by decide +kernel
theorem dD_takeAcknowledgements_0 : decode cD_takeAcknowledgements 0 = .ok (.iconst 0, 1) := by decide +kernel
theorem dD_takeAcknowledgements_1 : decode cD_takeAcknowledgements 1 = .ok (.istore_n 1, 1) := by decide +kernel
theorem dD_takeAcknowledgements_2 : decode cD_takeAcknowledgements 2 = .ok (.iload_n 1, 1) := by decide +kernel
theorem dD_takeAcknowledgements_3 : decode cD_takeAcknowledgements 3 = .ok (.bipush 10, 2) := by decide +kernel
theorem dD_takeAcknowledgements_5 : decode cD_takeAcknowledgements 5 = .ok (.if_icmp .ge 60, 3) := by decide +kernel
theorem dD_takeAcknowledgements_8 : decode cD_takeAcknowledgements 8 = .ok (.aload_n 0, 1) := by decide +kernel
theorem dD_takeAcknowledgements_9 : decode cD_takeAcknowledgements 9 = .ok (.getfield 146, 3) := by decide +kernel
theorem dD_takeAcknowledgements_12 : decode cD_takeAcknowledgements 12 = .ok (.iconst 4, 1) := by decide +kernel
theorem dD_takeAcknowledgements_13 : decode cD_takeAcknowledgements 13 = .ok (.if_icmp .eq 52, 3) := by decide +kernel
theorem dD_takeAcknowledgements_16 : decode cD_takeAcknowledgements 16 = .ok (.aload_n 0, 1) := by decide +kernel
theorem dD_takeAcknowledgements_17 : decode cD_takeAcknowledgements 17 = .ok (.getfield 19, 3) := by decide +kernel
theorem dD_takeAcknowledgements_20 : decode cD_takeAcknowledgements 20 = .ok (.getfield 131, 3) := by decide +kernel
theorem dD_takeAcknowledgements_23 : decode cD_takeAcknowledgements 23 = .ok (.iload_n 1, 1) := by decide +kernel
theorem dD_takeAcknowledgements_24 : decode cD_takeAcknowledgements 24 = .ok (.invokestatic 255, 3) := by decide +kernel
theorem dD_takeAcknowledgements_27 : decode cD_takeAcknowledgements 27 = .ok (.ifCond .ne 6, 3) := by decide +kernel
theorem dD_takeAcknowledgements_30 : decode cD_takeAcknowledgements 30 = .ok (.goto 29, 3) := by decide +kernel
theorem dD_takeAcknowledgements_33 : decode cD_takeAcknowledgements 33 = .ok (.aload_n 0, 1) := by decide +kernel
theorem dD_takeAcknowledgements_34 : decode cD_takeAcknowledgements 34 = .ok (.getfield 26, 3) := by decide +kernel
theorem dD_takeAcknowledgements_37 : decode cD_takeAcknowledgements 37 = .ok (.iload_n 1, 1) := by decide +kernel
theorem dD_takeAcknowledgements_38 : decode cD_takeAcknowledgements 38 = .ok (.invokevirtual 269, 3) := by decide +kernel
theorem dD_takeAcknowledgements_41 : decode cD_takeAcknowledgements 41 = .ok (.ifCond .eq 14, 3) := by decide +kernel
theorem dD_takeAcknowledgements_44 : decode cD_takeAcknowledgements 44 = .ok (.aload_n 0, 1) := by decide +kernel
theorem dD_takeAcknowledgements_45 : decode cD_takeAcknowledgements 45 = .ok (.getfield 26, 3) := by decide +kernel
theorem dD_takeAcknowledgements_48 : decode cD_takeAcknowledgements 48 = .ok (.iload_n 1, 1) := by decide +kernel
theorem dD_takeAcknowledgements_49 : decode cD_takeAcknowledgements 49 = .ok (.invokevirtual 272, 3) := by decide +kernel
theorem dD_takeAcknowledgements_52 : decode cD_takeAcknowledgements 52 = .ok (.goto 7, 3) := by decide +kernel
theorem dD_takeAcknowledgements_55 : decode cD_takeAcknowledgements 55 = .ok (.aload_n 0, 1) := by decide +kernel
theorem dD_takeAcknowledgements_56 : decode cD_takeAcknowledgements 56 = .ok (.invokevirtual 266, 3) := by decide +kernel
theorem dD_takeAcknowledgements_59 : decode cD_takeAcknowledgements 59 = .ok (.iinc 1 1, 3) := by decide +kernel
theorem dD_takeAcknowledgements_62 : decode cD_takeAcknowledgements 62 = .ok (.goto (-60), 3) := by decide +kernel
theorem dD_takeAcknowledgements_65 : decode cD_takeAcknowledgements 65 = .ok (.return_, 1) := by decide +kernel
theorem dD_stopUnlessInitial_0 : decode cD_stopUnlessInitial 0 = .ok (.aload_n 0, 1) := by decide +kernel
theorem dD_stopUnlessInitial_1 : decode cD_stopUnlessInitial 1 = .ok (.getfield 146, 3) := by decide +kernel
theorem dD_stopUnlessInitial_4 : decode cD_stopUnlessInitial 4 = .ok (.ifCond .eq 8, 3) := by decide +kernel
theorem dD_stopUnlessInitial_7 : decode cD_stopUnlessInitial 7 = .ok (.aload_n 0, 1) := by decide +kernel
theorem dD_stopUnlessInitial_8 : decode cD_stopUnlessInitial 8 = .ok (.iconst 4, 1) := by decide +kernel
theorem dD_stopUnlessInitial_9 : decode cD_stopUnlessInitial 9 = .ok (.putfield 146, 3) := by decide +kernel
theorem dD_stopUnlessInitial_12 : decode cD_stopUnlessInitial 12 = .ok (.return_, 1) := by decide +kernel
theorem dD_expectReadings_0 : decode cD_expectReadings 0 = .ok (.aload_n 0, 1) := by decide +kernel
theorem dD_expectReadings_1 : decode cD_expectReadings 1 = .ok (.getfield 146, 3) := by decide +kernel
theorem dD_expectReadings_4 : decode cD_expectReadings 4 = .ok (.ifCond .ne 34, 3) := by decide +kernel
theorem dD_expectReadings_7 : decode cD_expectReadings 7 = .ok (.aload_n 0, 1) := by decide +kernel
theorem dD_expectReadings_8 : decode cD_expectReadings 8 = .ok (.getfield 57, 3) := by decide +kernel
theorem dD_expectReadings_11 : decode cD_expectReadings 11 = .ok (.iconst 0, 1) := by decide +kernel
theorem dD_expectReadings_12 : decode cD_expectReadings 12 = .ok (.aload_n 0, 1) := by decide +kernel
theorem dD_expectReadings_13 : decode cD_expectReadings 13 = .ok (.getfield 12, 3) := by decide +kernel
theorem dD_expectReadings_16 : decode cD_expectReadings 16 = .ok (.getfield 216, 3) := by decide +kernel
theorem dD_expectReadings_19 : decode cD_expectReadings 19 = .ok (.invokevirtual 212, 3) := by decide +kernel
theorem dD_expectReadings_22 : decode cD_expectReadings 22 = .ok (.aload_n 0, 1) := by decide +kernel
theorem dD_expectReadings_23 : decode cD_expectReadings 23 = .ok (.getfield 54, 3) := by decide +kernel
theorem dD_expectReadings_26 : decode cD_expectReadings 26 = .ok (.iconst 0, 1) := by decide +kernel
theorem dD_expectReadings_27 : decode cD_expectReadings 27 = .ok (.aload_n 0, 1) := by decide +kernel
theorem dD_expectReadings_28 : decode cD_expectReadings 28 = .ok (.getfield 12, 3) := by decide +kernel
theorem dD_expectReadings_31 : decode cD_expectReadings 31 = .ok (.getfield 209, 3) := by decide +kernel
theorem dD_expectReadings_34 : decode cD_expectReadings 34 = .ok (.invokevirtual 212, 3) := by decide +kernel
theorem dD_expectReadings_37 : decode cD_expectReadings 37 = .ok (.return_, 1) := by decide +kernel
theorem dD_expectReadings_38 : decode cD_expectReadings 38 = .ok (.aload_n 0, 1) := by decide +kernel
theorem dD_expectReadings_39 : decode cD_expectReadings 39 = .ok (.getfield 57, 3) := by decide +kernel
theorem dD_expectReadings_42 : decode cD_expectReadings 42 = .ok (.aload_n 0, 1) := by decide +kernel
theorem dD_expectReadings_43 : decode cD_expectReadings 43 = .ok (.getfield 51, 3) := by decide +kernel
theorem dD_expectReadings_46 : decode cD_expectReadings 46 = .ok (.getfield 176, 3) := by decide +kernel
theorem dD_expectReadings_49 : decode cD_expectReadings 49 = .ok (.aload_n 0, 1) := by decide +kernel
theorem dD_expectReadings_50 : decode cD_expectReadings 50 = .ok (.getfield 12, 3) := by decide +kernel
theorem dD_expectReadings_53 : decode cD_expectReadings 53 = .ok (.getfield 275, 3) := by decide +kernel
theorem dD_expectReadings_56 : decode cD_expectReadings 56 = .ok (.isub, 1) := by decide +kernel
theorem dD_expectReadings_57 : decode cD_expectReadings 57 = .ok (.iconst 0, 1) := by decide +kernel
theorem dD_expectReadings_58 : decode cD_expectReadings 58 = .ok (.invokestatic 278, 3) := by decide +kernel
theorem dD_expectReadings_61 : decode cD_expectReadings 61 = .ok (.aload_n 0, 1) := by decide +kernel
theorem dD_expectReadings_62 : decode cD_expectReadings 62 = .ok (.getfield 51, 3) := by decide +kernel
theorem dD_expectReadings_65 : decode cD_expectReadings 65 = .ok (.getfield 179, 3) := by decide +kernel
theorem dD_expectReadings_68 : decode cD_expectReadings 68 = .ok (.aload_n 0, 1) := by decide +kernel
theorem dD_expectReadings_69 : decode cD_expectReadings 69 = .ok (.getfield 12, 3) := by decide +kernel
theorem dD_expectReadings_72 : decode cD_expectReadings 72 = .ok (.getfield 284, 3) := by decide +kernel
theorem dD_expectReadings_75 : decode cD_expectReadings 75 = .ok (.iadd, 1) := by decide +kernel
theorem dD_expectReadings_76 : decode cD_expectReadings 76 = .ok (.aload_n 0, 1) := by decide +kernel
theorem dD_expectReadings_77 : decode cD_expectReadings 77 = .ok (.getfield 12, 3) := by decide +kernel
theorem dD_expectReadings_80 : decode cD_expectReadings 80 = .ok (.getfield 216, 3) := by decide +kernel
theorem dD_expectReadings_83 : decode cD_expectReadings 83 = .ok (.invokestatic 287, 3) := by decide +kernel
theorem dD_expectReadings_86 : decode cD_expectReadings 86 = .ok (.invokevirtual 212, 3) := by decide +kernel
theorem dD_expectReadings_89 : decode cD_expectReadings 89 = .ok (.aload_n 0, 1) := by decide +kernel
theorem dD_expectReadings_90 : decode cD_expectReadings 90 = .ok (.getfield 51, 3) := by decide +kernel
theorem dD_expectReadings_93 : decode cD_expectReadings 93 = .ok (.getfield 179, 3) := by decide +kernel
theorem dD_expectReadings_96 : decode cD_expectReadings 96 = .ok (.aload_n 0, 1) := by decide +kernel
theorem dD_expectReadings_97 : decode cD_expectReadings 97 = .ok (.getfield 57, 3) := by decide +kernel
theorem dD_expectReadings_100 : decode cD_expectReadings 100 = .ok (.getfield 179, 3) := by decide +kernel
theorem dD_expectReadings_103 : decode cD_expectReadings 103 = .ok (.invokestatic 278, 3) := by decide +kernel
theorem dD_expectReadings_106 : decode cD_expectReadings 106 = .ok (.istore_n 2, 1) := by decide +kernel
theorem dD_expectReadings_107 : decode cD_expectReadings 107 = .ok (.aload_n 0, 1) := by decide +kernel
theorem dD_expectReadings_108 : decode cD_expectReadings 108 = .ok (.getfield 51, 3) := by decide +kernel
theorem dD_expectReadings_111 : decode cD_expectReadings 111 = .ok (.getfield 176, 3) := by decide +kernel
theorem dD_expectReadings_114 : decode cD_expectReadings 114 = .ok (.aload_n 0, 1) := by decide +kernel
theorem dD_expectReadings_115 : decode cD_expectReadings 115 = .ok (.getfield 57, 3) := by decide +kernel
theorem dD_expectReadings_118 : decode cD_expectReadings 118 = .ok (.getfield 176, 3) := by decide +kernel
theorem dD_expectReadings_121 : decode cD_expectReadings 121 = .ok (.invokestatic 287, 3) := by decide +kernel
theorem dD_expectReadings_124 : decode cD_expectReadings 124 = .ok (.istore_n 3, 1) := by decide +kernel
theorem dD_expectReadings_125 : decode cD_expectReadings 125 = .ok (.aload_n 0, 1) := by decide +kernel
theorem dD_expectReadings_126 : decode cD_expectReadings 126 = .ok (.getfield 33, 3) := by decide +kernel
theorem dD_expectReadings_129 : decode cD_expectReadings 129 = .ok (.iload_n 1, 1) := by decide +kernel
theorem dD_expectReadings_130 : decode cD_expectReadings 130 = .ok (.invokevirtual 290, 3) := by decide +kernel
theorem dD_expectReadings_133 : decode cD_expectReadings 133 = .ok (.istore 4, 2) := by decide +kernel
theorem dD_expectReadings_135 : decode cD_expectReadings 135 = .ok (.bipush 15, 2) := by decide +kernel
theorem dD_expectReadings_137 : decode cD_expectReadings 137 = .ok (.aload_n 0, 1) := by decide +kernel
theorem dD_expectReadings_138 : decode cD_expectReadings 138 = .ok (.getfield 33, 3) := by decide +kernel
theorem dD_expectReadings_141 : decode cD_expectReadings 141 = .ok (.iload_n 1, 1) := by decide +kernel
theorem dD_expectReadings_142 : decode cD_expectReadings 142 = .ok (.invokevirtual 294, 3) := by decide +kernel
theorem dD_expectReadings_145 : decode cD_expectReadings 145 = .ok (.iconst (-1), 1) := by decide +kernel
theorem dD_expectReadings_146 : decode cD_expectReadings 146 = .ok (.ixor, 1) := by decide +kernel
theorem dD_expectReadings_147 : decode cD_expectReadings 147 = .ok (.iand, 1) := by decide +kernel
theorem dD_expectReadings_148 : decode cD_expectReadings 148 = .ok (.istore 5, 2) := by decide +kernel
theorem dD_expectReadings_150 : decode cD_expectReadings 150 = .ok (.aload_n 0, 1) := by decide +kernel
theorem dD_expectReadings_151 : decode cD_expectReadings 151 = .ok (.getfield 54, 3) := by decide +kernel
theorem dD_expectReadings_154 : decode cD_expectReadings 154 = .ok (.aload_n 0, 1) := by decide +kernel
theorem dD_expectReadings_155 : decode cD_expectReadings 155 = .ok (.getfield 12, 3) := by decide +kernel
theorem dD_expectReadings_158 : decode cD_expectReadings 158 = .ok (.aload_n 0, 1) := by decide +kernel
theorem dD_expectReadings_159 : decode cD_expectReadings 159 = .ok (.getfield 47, 3) := by decide +kernel
theorem dD_expectReadings_162 : decode cD_expectReadings 162 = .ok (.getfield 176, 3) := by decide +kernel
theorem dD_expectReadings_165 : decode cD_expectReadings 165 = .ok (.iload_n 2, 1) := by decide +kernel
theorem dD_expectReadings_166 : decode cD_expectReadings 166 = .ok (.isub, 1) := by decide +kernel
theorem dD_expectReadings_167 : decode cD_expectReadings 167 = .ok (.aload_n 0, 1) := by decide +kernel
theorem dD_expectReadings_168 : decode cD_expectReadings 168 = .ok (.getfield 12, 3) := by decide +kernel
theorem dD_expectReadings_171 : decode cD_expectReadings 171 = .ok (.iload 4, 2) := by decide +kernel
theorem dD_expectReadings_173 : decode cD_expectReadings 173 = .ok (.invokevirtual 297, 3) := by decide +kernel
theorem dD_expectReadings_176 : decode cD_expectReadings 176 = .ok (.iadd, 1) := by decide +kernel
theorem dD_expectReadings_177 : decode cD_expectReadings 177 = .ok (.invokevirtual 300, 3) := by decide +kernel
theorem dD_expectReadings_180 : decode cD_expectReadings 180 = .ok (.aload_n 0, 1) := by decide +kernel
theorem dD_expectReadings_181 : decode cD_expectReadings 181 = .ok (.getfield 12, 3) := by decide +kernel
theorem dD_expectReadings_184 : decode cD_expectReadings 184 = .ok (.aload_n 0, 1) := by decide +kernel
theorem dD_expectReadings_185 : decode cD_expectReadings 185 = .ok (.getfield 47, 3) := by decide +kernel
theorem dD_expectReadings_188 : decode cD_expectReadings 188 = .ok (.getfield 179, 3) := by decide +kernel
theorem dD_expectReadings_191 : decode cD_expectReadings 191 = .ok (.iload_n 3, 1) := by decide +kernel
theorem dD_expectReadings_192 : decode cD_expectReadings 192 = .ok (.isub, 1) := by decide +kernel
theorem dD_expectReadings_193 : decode cD_expectReadings 193 = .ok (.aload_n 0, 1) := by decide +kernel
theorem dD_expectReadings_194 : decode cD_expectReadings 194 = .ok (.getfield 12, 3) := by decide +kernel
theorem dD_expectReadings_197 : decode cD_expectReadings 197 = .ok (.iload 5, 2) := by decide +kernel
theorem dD_expectReadings_199 : decode cD_expectReadings 199 = .ok (.invokevirtual 297, 3) := by decide +kernel
theorem dD_expectReadings_202 : decode cD_expectReadings 202 = .ok (.iadd, 1) := by decide +kernel
theorem dD_expectReadings_203 : decode cD_expectReadings 203 = .ok (.invokevirtual 300, 3) := by decide +kernel
theorem dD_expectReadings_206 : decode cD_expectReadings 206 = .ok (.invokevirtual 212, 3) := by decide +kernel
theorem dD_expectReadings_209 : decode cD_expectReadings 209 = .ok (.return_, 1) := by decide +kernel
theorem dD_detectFailures_0 : decode cD_detectFailures 0 = .ok (.aload_n 0, 1) := by decide +kernel
theorem dD_detectFailures_1 : decode cD_detectFailures 1 = .ok (.getfield 54, 3) := by decide +kernel
theorem dD_detectFailures_4 : decode cD_detectFailures 4 = .ok (.aload_n 0, 1) := by decide +kernel
theorem dD_detectFailures_5 : decode cD_detectFailures 5 = .ok (.getfield 19, 3) := by decide +kernel
theorem dD_detectFailures_8 : decode cD_detectFailures 8 = .ok (.getfield 90, 3) := by decide +kernel
theorem dD_detectFailures_11 : decode cD_detectFailures 11 = .ok (.invokevirtual 303, 3) := by decide +kernel
theorem dD_detectFailures_14 : decode cD_detectFailures 14 = .ok (.ifCond .ne 8, 3) := by decide +kernel
theorem dD_detectFailures_17 : decode cD_detectFailures 17 = .ok (.aload_n 0, 1) := by decide +kernel
theorem dD_detectFailures_18 : decode cD_detectFailures 18 = .ok (.iconst 0, 1) := by decide +kernel
theorem dD_detectFailures_19 : decode cD_detectFailures 19 = .ok (.invokevirtual 306, 3) := by decide +kernel
theorem dD_detectFailures_22 : decode cD_detectFailures 22 = .ok (.aload_n 0, 1) := by decide +kernel
theorem dD_detectFailures_23 : decode cD_detectFailures 23 = .ok (.getfield 57, 3) := by decide +kernel
theorem dD_detectFailures_26 : decode cD_detectFailures 26 = .ok (.aload_n 0, 1) := by decide +kernel
theorem dD_detectFailures_27 : decode cD_detectFailures 27 = .ok (.getfield 19, 3) := by decide +kernel
theorem dD_detectFailures_30 : decode cD_detectFailures 30 = .ok (.getfield 97, 3) := by decide +kernel
theorem dD_detectFailures_33 : decode cD_detectFailures 33 = .ok (.invokevirtual 303, 3) := by decide +kernel
theorem dD_detectFailures_36 : decode cD_detectFailures 36 = .ok (.ifCond .ne 8, 3) := by decide +kernel
theorem dD_detectFailures_39 : decode cD_detectFailures 39 = .ok (.aload_n 0, 1) := by decide +kernel
theorem dD_detectFailures_40 : decode cD_detectFailures 40 = .ok (.iconst 1, 1) := by decide +kernel
theorem dD_detectFailures_41 : decode cD_detectFailures 41 = .ok (.invokevirtual 306, 3) := by decide +kernel
theorem dD_detectFailures_44 : decode cD_detectFailures 44 = .ok (.iconst 0, 1) := by decide +kernel
theorem dD_detectFailures_45 : decode cD_detectFailures 45 = .ok (.istore_n 1, 1) := by decide +kernel
theorem dD_detectFailures_46 : decode cD_detectFailures 46 = .ok (.iload_n 1, 1) := by decide +kernel
theorem dD_detectFailures_47 : decode cD_detectFailures 47 = .ok (.iconst 4, 1) := by decide +kernel
theorem dD_detectFailures_48 : decode cD_detectFailures 48 = .ok (.if_icmp .ge 41, 3) := by decide +kernel
theorem dD_detectFailures_51 : decode cD_detectFailures 51 = .ok (.aload_n 0, 1) := by decide +kernel
theorem dD_detectFailures_52 : decode cD_detectFailures 52 = .ok (.getfield 19, 3) := by decide +kernel
theorem dD_detectFailures_55 : decode cD_detectFailures 55 = .ok (.getfield 109, 3) := by decide +kernel
theorem dD_detectFailures_58 : decode cD_detectFailures 58 = .ok (.iload_n 1, 1) := by decide +kernel
theorem dD_detectFailures_59 : decode cD_detectFailures 59 = .ok (.invokestatic 255, 3) := by decide +kernel
theorem dD_detectFailures_62 : decode cD_detectFailures 62 = .ok (.aload_n 0, 1) := by decide +kernel
theorem dD_detectFailures_63 : decode cD_detectFailures 63 = .ok (.getfield 33, 3) := by decide +kernel
theorem dD_detectFailures_66 : decode cD_detectFailures 66 = .ok (.getfield 188, 3) := by decide +kernel
theorem dD_detectFailures_69 : decode cD_detectFailures 69 = .ok (.iload_n 1, 1) := by decide +kernel
theorem dD_detectFailures_70 : decode cD_detectFailures 70 = .ok (.invokestatic 255, 3) := by decide +kernel
theorem dD_detectFailures_73 : decode cD_detectFailures 73 = .ok (.if_icmp .eq 10, 3) := by decide +kernel
theorem dD_detectFailures_76 : decode cD_detectFailures 76 = .ok (.aload_n 0, 1) := by decide +kernel
theorem dD_detectFailures_77 : decode cD_detectFailures 77 = .ok (.iconst 2, 1) := by decide +kernel
theorem dD_detectFailures_78 : decode cD_detectFailures 78 = .ok (.iload_n 1, 1) := by decide +kernel
theorem dD_detectFailures_79 : decode cD_detectFailures 79 = .ok (.iadd, 1) := by decide +kernel
theorem dD_detectFailures_80 : decode cD_detectFailures 80 = .ok (.invokevirtual 306, 3) := by decide +kernel
theorem dD_detectFailures_83 : decode cD_detectFailures 83 = .ok (.iinc 1 1, 3) := by decide +kernel
theorem dD_detectFailures_86 : decode cD_detectFailures 86 = .ok (.goto (-40), 3) := by decide +kernel
theorem dD_detectFailures_89 : decode cD_detectFailures 89 = .ok (.iconst 0, 1) := by decide +kernel
theorem dD_detectFailures_90 : decode cD_detectFailures 90 = .ok (.istore_n 1, 1) := by decide +kernel
theorem dD_detectFailures_91 : decode cD_detectFailures 91 = .ok (.iload_n 1, 1) := by decide +kernel
theorem dD_detectFailures_92 : decode cD_detectFailures 92 = .ok (.iconst 4, 1) := by decide +kernel
theorem dD_detectFailures_93 : decode cD_detectFailures 93 = .ok (.if_icmp .ge 38, 3) := by decide +kernel
theorem dD_detectFailures_96 : decode cD_detectFailures 96 = .ok (.aload_n 0, 1) := by decide +kernel
theorem dD_detectFailures_97 : decode cD_detectFailures 97 = .ok (.getfield 26, 3) := by decide +kernel
theorem dD_detectFailures_100 : decode cD_detectFailures 100 = .ok (.iconst 2, 1) := by decide +kernel
theorem dD_detectFailures_101 : decode cD_detectFailures 101 = .ok (.iload_n 1, 1) := by decide +kernel
theorem dD_detectFailures_102 : decode cD_detectFailures 102 = .ok (.iadd, 1) := by decide +kernel
theorem dD_detectFailures_103 : decode cD_detectFailures 103 = .ok (.invokevirtual 259, 3) := by decide +kernel
theorem dD_detectFailures_106 : decode cD_detectFailures 106 = .ok (.ifCond .ne 19, 3) := by decide +kernel
theorem dD_detectFailures_109 : decode cD_detectFailures 109 = .ok (.aload_n 0, 1) := by decide +kernel
theorem dD_detectFailures_110 : decode cD_detectFailures 110 = .ok (.iload_n 1, 1) := by decide +kernel
theorem dD_detectFailures_111 : decode cD_detectFailures 111 = .ok (.invokevirtual 309, 3) := by decide +kernel
theorem dD_detectFailures_114 : decode cD_detectFailures 114 = .ok (.ifCond .eq 11, 3) := by decide +kernel
theorem dD_detectFailures_117 : decode cD_detectFailures 117 = .ok (.aload_n 0, 1) := by decide +kernel
theorem dD_detectFailures_118 : decode cD_detectFailures 118 = .ok (.bipush 6, 2) := by decide +kernel
theorem dD_detectFailures_120 : decode cD_detectFailures 120 = .ok (.iload_n 1, 1) := by decide +kernel
theorem dD_detectFailures_121 : decode cD_detectFailures 121 = .ok (.iadd, 1) := by decide +kernel
theorem dD_detectFailures_122 : decode cD_detectFailures 122 = .ok (.invokevirtual 306, 3) := by decide +kernel
theorem dD_detectFailures_125 : decode cD_detectFailures 125 = .ok (.iinc 1 1, 3) := by decide +kernel
theorem dD_detectFailures_128 : decode cD_detectFailures 128 = .ok (.goto (-37), 3) := by decide +kernel
theorem dD_detectFailures_131 : decode cD_detectFailures 131 = .ok (.return_, 1) := by decide +kernel
theorem dD_isToldWrongly_0 : decode cD_isToldWrongly 0 = .ok (.aload_n 0, 1) := by decide +kernel
theorem dD_isToldWrongly_1 : decode cD_isToldWrongly 1 = .ok (.getfield 19, 3) := by decide +kernel
theorem dD_isToldWrongly_4 : decode cD_isToldWrongly 4 = .ok (.getfield 112, 3) := by decide +kernel
theorem dD_isToldWrongly_7 : decode cD_isToldWrongly 7 = .ok (.iload_n 1, 1) := by decide +kernel
theorem dD_isToldWrongly_8 : decode cD_isToldWrongly 8 = .ok (.invokestatic 255, 3) := by decide +kernel
theorem dD_isToldWrongly_11 : decode cD_isToldWrongly 11 = .ok (.ifCond .eq 25, 3) := by decide +kernel
theorem dD_isToldWrongly_14 : decode cD_isToldWrongly 14 = .ok (.aload_n 0, 1) := by decide +kernel
theorem dD_isToldWrongly_15 : decode cD_isToldWrongly 15 = .ok (.getfield 33, 3) := by decide +kernel
theorem dD_isToldWrongly_18 : decode cD_isToldWrongly 18 = .ok (.getfield 188, 3) := by decide +kernel
theorem dD_isToldWrongly_21 : decode cD_isToldWrongly 21 = .ok (.iload_n 1, 1) := by decide +kernel
theorem dD_isToldWrongly_22 : decode cD_isToldWrongly 22 = .ok (.invokestatic 255, 3) := by decide +kernel
theorem dD_isToldWrongly_25 : decode cD_isToldWrongly 25 = .ok (.ifCond .ne 7, 3) := by decide +kernel
theorem dD_isToldWrongly_28 : decode cD_isToldWrongly 28 = .ok (.iconst 1, 1) := by decide +kernel
theorem dD_isToldWrongly_29 : decode cD_isToldWrongly 29 = .ok (.goto 26, 3) := by decide +kernel
theorem dD_isToldWrongly_32 : decode cD_isToldWrongly 32 = .ok (.iconst 0, 1) := by decide +kernel
theorem dD_isToldWrongly_33 : decode cD_isToldWrongly 33 = .ok (.goto 22, 3) := by decide +kernel
theorem dD_isToldWrongly_36 : decode cD_isToldWrongly 36 = .ok (.aload_n 0, 1) := by decide +kernel
theorem dD_isToldWrongly_37 : decode cD_isToldWrongly 37 = .ok (.getfield 33, 3) := by decide +kernel
theorem dD_isToldWrongly_40 : decode cD_isToldWrongly 40 = .ok (.getfield 188, 3) := by decide +kernel
theorem dD_isToldWrongly_43 : decode cD_isToldWrongly 43 = .ok (.aload_n 0, 1) := by decide +kernel
theorem dD_isToldWrongly_44 : decode cD_isToldWrongly 44 = .ok (.getfield 33, 3) := by decide +kernel
theorem dD_isToldWrongly_47 : decode cD_isToldWrongly 47 = .ok (.getfield 312, 3) := by decide +kernel
theorem dD_isToldWrongly_50 : decode cD_isToldWrongly 50 = .ok (.iand, 1) := by decide +kernel
theorem dD_isToldWrongly_51 : decode cD_isToldWrongly 51 = .ok (.iload_n 1, 1) := by decide +kernel
theorem dD_isToldWrongly_52 : decode cD_isToldWrongly 52 = .ok (.invokestatic 255, 3) := by decide +kernel
theorem dD_isToldWrongly_55 : decode cD_isToldWrongly 55 = .ok (.ireturn, 1) := by decide +kernel
theorem dD_detect_0 : decode cD_detect 0 = .ok (.aload_n 0, 1) := by decide +kernel
theorem dD_detect_1 : decode cD_detect 1 = .ok (.getfield 26, 3) := by decide +kernel
theorem dD_detect_4 : decode cD_detect 4 = .ok (.iload_n 1, 1) := by decide +kernel
theorem dD_detect_5 : decode cD_detect 5 = .ok (.invokevirtual 259, 3) := by decide +kernel
theorem dD_detect_8 : decode cD_detect 8 = .ok (.ifCond .ne 30, 3) := by decide +kernel
theorem dD_detect_11 : decode cD_detect 11 = .ok (.aload_n 0, 1) := by decide +kernel
theorem dD_detect_12 : decode cD_detect 12 = .ok (.getfield 26, 3) := by decide +kernel
theorem dD_detect_15 : decode cD_detect 15 = .ok (.iload_n 1, 1) := by decide +kernel
theorem dD_detect_16 : decode cD_detect 16 = .ok (.invokevirtual 315, 3) := by decide +kernel
theorem dD_detect_19 : decode cD_detect 19 = .ok (.aload_n 0, 1) := by decide +kernel
theorem dD_detect_20 : decode cD_detect 20 = .ok (.getfield 40, 3) := by decide +kernel
theorem dD_detect_23 : decode cD_detect 23 = .ok (.aload_n 0, 1) := by decide +kernel
theorem dD_detect_24 : decode cD_detect 24 = .ok (.getfield 40, 3) := by decide +kernel
theorem dD_detect_27 : decode cD_detect 27 = .ok (.getfield 165, 3) := by decide +kernel
theorem dD_detect_30 : decode cD_detect 30 = .ok (.iload_n 1, 1) := by decide +kernel
theorem dD_detect_31 : decode cD_detect 31 = .ok (.iconst 1, 1) := by decide +kernel
theorem dD_detect_32 : decode cD_detect 32 = .ok (.invokestatic 105, 3) := by decide +kernel
theorem dD_detect_35 : decode cD_detect 35 = .ok (.putfield 165, 3) := by decide +kernel
theorem dD_detect_38 : decode cD_detect 38 = .ok (.return_, 1) := by decide +kernel
theorem dD_estimate_0 : decode cD_estimate 0 = .ok (.aload_n 0, 1) := by decide +kernel
theorem dD_estimate_1 : decode cD_estimate 1 = .ok (.getfield 26, 3) := by decide +kernel
theorem dD_estimate_4 : decode cD_estimate 4 = .ok (.iconst 0, 1) := by decide +kernel
theorem dD_estimate_5 : decode cD_estimate 5 = .ok (.invokevirtual 259, 3) := by decide +kernel
theorem dD_estimate_8 : decode cD_estimate 8 = .ok (.ifCond .eq 27, 3) := by decide +kernel
theorem dD_estimate_11 : decode cD_estimate 11 = .ok (.aload_n 0, 1) := by decide +kernel
theorem dD_estimate_12 : decode cD_estimate 12 = .ok (.getfield 47, 3) := by decide +kernel
theorem dD_estimate_15 : decode cD_estimate 15 = .ok (.aload_n 0, 1) := by decide +kernel
theorem dD_estimate_16 : decode cD_estimate 16 = .ok (.getfield 54, 3) := by decide +kernel
theorem dD_estimate_19 : decode cD_estimate 19 = .ok (.getfield 176, 3) := by decide +kernel
theorem dD_estimate_22 : decode cD_estimate 22 = .ok (.aload_n 0, 1) := by decide +kernel
theorem dD_estimate_23 : decode cD_estimate 23 = .ok (.getfield 54, 3) := by decide +kernel
theorem dD_estimate_26 : decode cD_estimate 26 = .ok (.getfield 179, 3) := by decide +kernel
theorem dD_estimate_29 : decode cD_estimate 29 = .ok (.invokevirtual 212, 3) := by decide +kernel
theorem dD_estimate_32 : decode cD_estimate 32 = .ok (.goto 24, 3) := by decide +kernel
theorem dD_estimate_35 : decode cD_estimate 35 = .ok (.aload_n 0, 1) := by decide +kernel
theorem dD_estimate_36 : decode cD_estimate 36 = .ok (.getfield 47, 3) := by decide +kernel
theorem dD_estimate_39 : decode cD_estimate 39 = .ok (.aload_n 0, 1) := by decide +kernel
theorem dD_estimate_40 : decode cD_estimate 40 = .ok (.getfield 19, 3) := by decide +kernel
theorem dD_estimate_43 : decode cD_estimate 43 = .ok (.getfield 90, 3) := by decide +kernel
theorem dD_estimate_46 : decode cD_estimate 46 = .ok (.aload_n 0, 1) := by decide +kernel
theorem dD_estimate_47 : decode cD_estimate 47 = .ok (.getfield 19, 3) := by decide +kernel
theorem dD_estimate_50 : decode cD_estimate 50 = .ok (.getfield 90, 3) := by decide +kernel
theorem dD_estimate_53 : decode cD_estimate 53 = .ok (.invokevirtual 212, 3) := by decide +kernel
theorem dD_estimate_56 : decode cD_estimate 56 = .ok (.aload_n 0, 1) := by decide +kernel
theorem dD_estimate_57 : decode cD_estimate 57 = .ok (.getfield 26, 3) := by decide +kernel
theorem dD_estimate_60 : decode cD_estimate 60 = .ok (.iconst 1, 1) := by decide +kernel
theorem dD_estimate_61 : decode cD_estimate 61 = .ok (.invokevirtual 259, 3) := by decide +kernel
theorem dD_estimate_64 : decode cD_estimate 64 = .ok (.ifCond .eq 27, 3) := by decide +kernel
theorem dD_estimate_67 : decode cD_estimate 67 = .ok (.aload_n 0, 1) := by decide +kernel
theorem dD_estimate_68 : decode cD_estimate 68 = .ok (.getfield 51, 3) := by decide +kernel
theorem dD_estimate_71 : decode cD_estimate 71 = .ok (.aload_n 0, 1) := by decide +kernel
theorem dD_estimate_72 : decode cD_estimate 72 = .ok (.getfield 57, 3) := by decide +kernel
theorem dD_estimate_75 : decode cD_estimate 75 = .ok (.getfield 176, 3) := by decide +kernel
theorem dD_estimate_78 : decode cD_estimate 78 = .ok (.aload_n 0, 1) := by decide +kernel
theorem dD_estimate_79 : decode cD_estimate 79 = .ok (.getfield 57, 3) := by decide +kernel
theorem dD_estimate_82 : decode cD_estimate 82 = .ok (.getfield 179, 3) := by decide +kernel
theorem dD_estimate_85 : decode cD_estimate 85 = .ok (.invokevirtual 212, 3) := by decide +kernel
