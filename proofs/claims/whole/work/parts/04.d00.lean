theorem dD_init_0 : decode cD_init 0 = .ok (.aload_n 0, 1) := by decide +kernel
theorem dD_init_1 : decode cD_init 1 = .ok (.invokespecial 3, 3) := by decide +kernel
theorem dD_init_4 : decode cD_init 4 = .ok (.aload_n 0, 1) := by decide +kernel
theorem dD_init_5 : decode cD_init 5 = .ok (.new 9, 3) := by decide +kernel
theorem dD_init_8 : decode cD_init 8 = .ok (.dup, 1) := by decide +kernel
theorem dD_init_9 : decode cD_init 9 = .ok (.invokespecial 11, 3) := by decide +kernel
theorem dD_init_12 : decode cD_init 12 = .ok (.putfield 12, 3) := by decide +kernel
theorem dD_init_15 : decode cD_init 15 = .ok (.aload_n 0, 1) := by decide +kernel
theorem dD_init_16 : decode cD_init 16 = .ok (.new 16, 3) := by decide +kernel
theorem dD_init_19 : decode cD_init 19 = .ok (.dup, 1) := by decide +kernel
theorem dD_init_20 : decode cD_init 20 = .ok (.invokespecial 18, 3) := by decide +kernel
theorem dD_init_23 : decode cD_init 23 = .ok (.putfield 19, 3) := by decide +kernel
theorem dD_init_26 : decode cD_init 26 = .ok (.aload_n 0, 1) := by decide +kernel
theorem dD_init_27 : decode cD_init 27 = .ok (.new 23, 3) := by decide +kernel
theorem dD_init_30 : decode cD_init 30 = .ok (.dup, 1) := by decide +kernel
theorem dD_init_31 : decode cD_init 31 = .ok (.invokespecial 25, 3) := by decide +kernel
theorem dD_init_34 : decode cD_init 34 = .ok (.putfield 26, 3) := by decide +kernel
theorem dD_init_37 : decode cD_init 37 = .ok (.aload_n 0, 1) := by decide +kernel
theorem dD_init_38 : decode cD_init 38 = .ok (.new 30, 3) := by decide +kernel
theorem dD_init_41 : decode cD_init 41 = .ok (.dup, 1) := by decide +kernel
theorem dD_init_42 : decode cD_init 42 = .ok (.invokespecial 32, 3) := by decide +kernel
theorem dD_init_45 : decode cD_init 45 = .ok (.putfield 33, 3) := by decide +kernel
theorem dD_init_48 : decode cD_init 48 = .ok (.aload_n 0, 1) := by decide +kernel
theorem dD_init_49 : decode cD_init 49 = .ok (.new 37, 3) := by decide +kernel
theorem dD_init_52 : decode cD_init 52 = .ok (.dup, 1) := by decide +kernel
theorem dD_init_53 : decode cD_init 53 = .ok (.invokespecial 39, 3) := by decide +kernel
theorem dD_init_56 : decode cD_init 56 = .ok (.putfield 40, 3) := by decide +kernel
theorem dD_init_59 : decode cD_init 59 = .ok (.aload_n 0, 1) := by decide +kernel
theorem dD_init_60 : decode cD_init 60 = .ok (.new 44, 3) := by decide +kernel
theorem dD_init_63 : decode cD_init 63 = .ok (.dup, 1) := by decide +kernel
theorem dD_init_64 : decode cD_init 64 = .ok (.invokespecial 46, 3) := by decide +kernel
theorem dD_init_67 : decode cD_init 67 = .ok (.putfield 47, 3) := by decide +kernel
theorem dD_init_70 : decode cD_init 70 = .ok (.aload_n 0, 1) := by decide +kernel
theorem dD_init_71 : decode cD_init 71 = .ok (.new 44, 3) := by decide +kernel
theorem dD_init_74 : decode cD_init 74 = .ok (.dup, 1) := by decide +kernel
theorem dD_init_75 : decode cD_init 75 = .ok (.invokespecial 46, 3) := by decide +kernel
theorem dD_init_78 : decode cD_init 78 = .ok (.putfield 51, 3) := by decide +kernel
theorem dD_init_81 : decode cD_init 81 = .ok (.aload_n 0, 1) := by decide +kernel
theorem dD_init_82 : decode cD_init 82 = .ok (.new 44, 3) := by decide +kernel
theorem dD_init_85 : decode cD_init 85 = .ok (.dup, 1) := by decide +kernel
theorem dD_init_86 : decode cD_init 86 = .ok (.invokespecial 46, 3) := by decide +kernel
theorem dD_init_89 : decode cD_init 89 = .ok (.putfield 54, 3) := by decide +kernel
theorem dD_init_92 : decode cD_init 92 = .ok (.aload_n 0, 1) := by decide +kernel
theorem dD_init_93 : decode cD_init 93 = .ok (.new 44, 3) := by decide +kernel
theorem dD_init_96 : decode cD_init 96 = .ok (.dup, 1) := by decide +kernel
theorem dD_init_97 : decode cD_init 97 = .ok (.invokespecial 46, 3) := by decide +kernel
theorem dD_init_100 : decode cD_init 100 = .ok (.putfield 57, 3) := by decide +kernel
theorem dD_init_103 : decode cD_init 103 = .ok (.aload_n 0, 1) := by decide +kernel
theorem dD_init_104 : decode cD_init 104 = .ok (.getfield 12, 3) := by decide +kernel
theorem dD_init_107 : decode cD_init 107 = .ok (.sipush 1000, 3) := by decide +kernel
theorem dD_init_110 : decode cD_init 110 = .ok (.bipush 100, 2) := by decide +kernel
theorem dD_init_112 : decode cD_init 112 = .ok (.sipush 400, 3) := by decide +kernel
theorem dD_init_115 : decode cD_init 115 = .ok (.sipush 600, 3) := by decide +kernel
theorem dD_init_118 : decode cD_init 118 = .ok (.sipush 900, 3) := by decide +kernel
theorem dD_init_121 : decode cD_init 121 = .ok (.invokevirtual 60, 3) := by decide +kernel
theorem dD_init_124 : decode cD_init 124 = .ok (.aload_n 0, 1) := by decide +kernel
theorem dD_init_125 : decode cD_init 125 = .ok (.getfield 12, 3) := by decide +kernel
theorem dD_init_128 : decode cD_init 128 = .ok (.bipush 50, 2) := by decide +kernel
theorem dD_init_130 : decode cD_init 130 = .ok (.iconst 5, 1) := by decide +kernel
theorem dD_init_131 : decode cD_init 131 = .ok (.iconst 5, 1) := by decide +kernel
theorem dD_init_132 : decode cD_init 132 = .ok (.bipush 15, 2) := by decide +kernel
theorem dD_init_134 : decode cD_init 134 = .ok (.invokevirtual 64, 3) := by decide +kernel
theorem dD_init_137 : decode cD_init 137 = .ok (.aload_n 0, 1) := by decide +kernel
theorem dD_init_138 : decode cD_init 138 = .ok (.invokevirtual 68, 3) := by decide +kernel
theorem dD_init_141 : decode cD_init 141 = .ok (.return_, 1) := by decide +kernel
theorem dD_begin_0 : decode cD_begin 0 = .ok (.iload_n 1, 1) := by decide +kernel
theorem dD_begin_1 : decode cD_begin 1 = .ok (.iload_n 2, 1) := by decide +kernel
theorem dD_begin_2 : decode cD_begin 2 = .ok (.iload_n 3, 1) := by decide +kernel
theorem dD_begin_3 : decode cD_begin 3 = .ok (.iload 4, 2) := by decide +kernel
theorem dD_begin_5 : decode cD_begin 5 = .ok (.iload 5, 2) := by decide +kernel
theorem dD_begin_7 : decode cD_begin 7 = .ok (.invokestatic 71, 3) := by decide +kernel
theorem dD_begin_10 : decode cD_begin 10 = .ok (.ifCond .eq 17, 3) := by decide +kernel
theorem dD_begin_13 : decode cD_begin 13 = .ok (.iload 6, 2) := by decide +kernel
theorem dD_begin_15 : decode cD_begin 15 = .ok (.iload 7, 2) := by decide +kernel
theorem dD_begin_17 : decode cD_begin 17 = .ok (.iload 8, 2) := by decide +kernel
theorem dD_begin_19 : decode cD_begin 19 = .ok (.iload 9, 2) := by decide +kernel
theorem dD_begin_21 : decode cD_begin 21 = .ok (.invokestatic 75, 3) := by decide +kernel
theorem dD_begin_24 : decode cD_begin 24 = .ok (.ifCond .ne 13, 3) := by decide +kernel
theorem dD_begin_27 : decode cD_begin 27 = .ok (.new 79, 3) := by decide +kernel
theorem dD_begin_30 : decode cD_begin 30 = .ok (.dup, 1) := by decide +kernel
theorem dD_begin_31 : decode cD_begin 31 = .ok (.ldc 81, 2) := by decide +kernel
theorem dD_begin_33 : decode cD_begin 33 = .ok (.invokespecial 83, 3) := by decide +kernel
theorem dD_begin_36 : decode cD_begin 36 = .ok (.athrow, 1) := by decide +kernel
theorem dD_begin_37 : decode cD_begin 37 = .ok (.aload_n 0, 1) := by decide +kernel
theorem dD_begin_38 : decode cD_begin 38 = .ok (.getfield 12, 3) := by decide +kernel
theorem dD_begin_41 : decode cD_begin 41 = .ok (.iload_n 1, 1) := by decide +kernel
theorem dD_begin_42 : decode cD_begin 42 = .ok (.iload_n 2, 1) := by decide +kernel
theorem dD_begin_43 : decode cD_begin 43 = .ok (.iload_n 3, 1) := by decide +kernel
theorem dD_begin_44 : decode cD_begin 44 = .ok (.iload 4, 2) := by decide +kernel
theorem dD_begin_46 : decode cD_begin 46 = .ok (.iload 5, 2) := by decide +kernel
theorem dD_begin_48 : decode cD_begin 48 = .ok (.invokevirtual 60, 3) := by decide +kernel
theorem dD_begin_51 : decode cD_begin 51 = .ok (.aload_n 0, 1) := by decide +kernel
theorem dD_begin_52 : decode cD_begin 52 = .ok (.getfield 12, 3) := by decide +kernel
theorem dD_begin_55 : decode cD_begin 55 = .ok (.iload 6, 2) := by decide +kernel
theorem dD_begin_57 : decode cD_begin 57 = .ok (.iload 7, 2) := by decide +kernel
theorem dD_begin_59 : decode cD_begin 59 = .ok (.iload 8, 2) := by decide +kernel
theorem dD_begin_61 : decode cD_begin 61 = .ok (.iload 9, 2) := by decide +kernel
theorem dD_begin_63 : decode cD_begin 63 = .ok (.invokevirtual 64, 3) := by decide +kernel
theorem dD_begin_66 : decode cD_begin 66 = .ok (.aload_n 0, 1) := by decide +kernel
theorem dD_begin_67 : decode cD_begin 67 = .ok (.invokevirtual 68, 3) := by decide +kernel
theorem dD_begin_70 : decode cD_begin 70 = .ok (.return_, 1) := by decide +kernel
theorem dD_level_0 : decode cD_level 0 = .ok (.aload_n 0, 1) := by decide +kernel
theorem dD_level_1 : decode cD_level 1 = .ok (.getfield 19, 3) := by decide +kernel
theorem dD_level_4 : decode cD_level 4 = .ok (.iconst 1, 1) := by decide +kernel
theorem dD_level_5 : decode cD_level 5 = .ok (.putfield 86, 3) := by decide +kernel
theorem dD_level_8 : decode cD_level 8 = .ok (.aload_n 0, 1) := by decide +kernel
theorem dD_level_9 : decode cD_level 9 = .ok (.getfield 19, 3) := by decide +kernel
theorem dD_level_12 : decode cD_level 12 = .ok (.iload_n 1, 1) := by decide +kernel
theorem dD_level_13 : decode cD_level 13 = .ok (.putfield 90, 3) := by decide +kernel
theorem dD_level_16 : decode cD_level 16 = .ok (.return_, 1) := by decide +kernel
theorem dD_steam_0 : decode cD_steam 0 = .ok (.aload_n 0, 1) := by decide +kernel
theorem dD_steam_1 : decode cD_steam 1 = .ok (.getfield 19, 3) := by decide +kernel
theorem dD_steam_4 : decode cD_steam 4 = .ok (.iconst 1, 1) := by decide +kernel
theorem dD_steam_5 : decode cD_steam 5 = .ok (.putfield 94, 3) := by decide +kernel
theorem dD_steam_8 : decode cD_steam 8 = .ok (.aload_n 0, 1) := by decide +kernel
theorem dD_steam_9 : decode cD_steam 9 = .ok (.getfield 19, 3) := by decide +kernel
theorem dD_steam_12 : decode cD_steam 12 = .ok (.iload_n 1, 1) := by decide +kernel
theorem dD_steam_13 : decode cD_steam 13 = .ok (.putfield 97, 3) := by decide +kernel
theorem dD_steam_16 : decode cD_steam 16 = .ok (.return_, 1) := by decide +kernel
theorem dD_pump_0 : decode cD_pump 0 = .ok (.iload_n 1, 1) := by decide +kernel
theorem dD_pump_1 : decode cD_pump 1 = .ok (.ifCond .lt 8, 3) := by decide +kernel
theorem dD_pump_4 : decode cD_pump 4 = .ok (.iload_n 1, 1) := by decide +kernel
theorem dD_pump_5 : decode cD_pump 5 = .ok (.iconst 4, 1) := by decide +kernel
theorem dD_pump_6 : decode cD_pump 6 = .ok (.if_icmp .lt 13, 3) := by decide +kernel
theorem dD_pump_9 : decode cD_pump 9 = .ok (.new 79, 3) := by decide +kernel
theorem dD_pump_12 : decode cD_pump 12 = .ok (.dup, 1) := by decide +kernel
theorem dD_pump_13 : decode cD_pump 13 = .ok (.ldc 100, 2) := by decide +kernel
theorem dD_pump_15 : decode cD_pump 15 = .ok (.invokespecial 83, 3) := by decide +kernel
theorem dD_pump_18 : decode cD_pump 18 = .ok (.athrow, 1) := by decide +kernel
theorem dD_pump_19 : decode cD_pump 19 = .ok (.aload_n 0, 1) := by decide +kernel
theorem dD_pump_20 : decode cD_pump 20 = .ok (.getfield 19, 3) := by decide +kernel
theorem dD_pump_23 : decode cD_pump 23 = .ok (.aload_n 0, 1) := by decide +kernel
theorem dD_pump_24 : decode cD_pump 24 = .ok (.getfield 19, 3) := by decide +kernel
theorem dD_pump_27 : decode cD_pump 27 = .ok (.getfield 102, 3) := by decide +kernel
theorem dD_pump_30 : decode cD_pump 30 = .ok (.iload_n 1, 1) := by decide +kernel
theorem dD_pump_31 : decode cD_pump 31 = .ok (.iconst 1, 1) := by decide +kernel
theorem dD_pump_32 : decode cD_pump 32 = .ok (.invokestatic 105, 3) := by decide +kernel
theorem dD_pump_35 : decode cD_pump 35 = .ok (.putfield 102, 3) := by decide +kernel
theorem dD_pump_38 : decode cD_pump 38 = .ok (.aload_n 0, 1) := by decide +kernel
theorem dD_pump_39 : decode cD_pump 39 = .ok (.getfield 19, 3) := by decide +kernel
theorem dD_pump_42 : decode cD_pump 42 = .ok (.aload_n 0, 1) := by decide +kernel
theorem dD_pump_43 : decode cD_pump 43 = .ok (.getfield 19, 3) := by decide +kernel
theorem dD_pump_46 : decode cD_pump 46 = .ok (.getfield 109, 3) := by decide +kernel
theorem dD_pump_49 : decode cD_pump 49 = .ok (.iload_n 1, 1) := by decide +kernel
theorem dD_pump_50 : decode cD_pump 50 = .ok (.iload_n 2, 1) := by decide +kernel
theorem dD_pump_51 : decode cD_pump 51 = .ok (.invokestatic 105, 3) := by decide +kernel
theorem dD_pump_54 : decode cD_pump 54 = .ok (.putfield 109, 3) := by decide +kernel
theorem dD_pump_57 : decode cD_pump 57 = .ok (.aload_n 0, 1) := by decide +kernel
theorem dD_pump_58 : decode cD_pump 58 = .ok (.getfield 19, 3) := by decide +kernel
theorem dD_pump_61 : decode cD_pump 61 = .ok (.aload_n 0, 1) := by decide +kernel
theorem dD_pump_62 : decode cD_pump 62 = .ok (.getfield 19, 3) := by decide +kernel
theorem dD_pump_65 : decode cD_pump 65 = .ok (.getfield 112, 3) := by decide +kernel
theorem dD_pump_68 : decode cD_pump 68 = .ok (.iload_n 1, 1) := by decide +kernel
theorem dD_pump_69 : decode cD_pump 69 = .ok (.iload_n 3, 1) := by decide +kernel
theorem dD_pump_70 : decode cD_pump 70 = .ok (.invokestatic 105, 3) := by decide +kernel
theorem dD_pump_73 : decode cD_pump 73 = .ok (.putfield 112, 3) := by decide +kernel
theorem dD_pump_76 : decode cD_pump 76 = .ok (.return_, 1) := by decide +kernel
theorem dD_say_0 : decode cD_say 0 = .ok (.iload_n 1, 1) := by decide +kernel
theorem dD_say_1 : decode cD_say 1 = .ok (.tableswitch 60 0 2 #[27, 38, 49], 27) := by decide +kernel
theorem dD_say_28 : decode cD_say 28 = .ok (.aload_n 0, 1) := by decide +kernel
theorem dD_say_29 : decode cD_say 29 = .ok (.getfield 19, 3) := by decide +kernel
theorem dD_say_32 : decode cD_say 32 = .ok (.iconst 1, 1) := by decide +kernel
theorem dD_say_33 : decode cD_say 33 = .ok (.putfield 115, 3) := by decide +kernel
theorem dD_say_36 : decode cD_say 36 = .ok (.goto 35, 3) := by decide +kernel
theorem dD_say_39 : decode cD_say 39 = .ok (.aload_n 0, 1) := by decide +kernel
theorem dD_say_40 : decode cD_say 40 = .ok (.getfield 19, 3) := by decide +kernel
theorem dD_say_43 : decode cD_say 43 = .ok (.iconst 1, 1) := by decide +kernel
theorem dD_say_44 : decode cD_say 44 = .ok (.putfield 118, 3) := by decide +kernel
theorem dD_say_47 : decode cD_say 47 = .ok (.goto 24, 3) := by decide +kernel
theorem dD_say_50 : decode cD_say 50 = .ok (.aload_n 0, 1) := by decide +kernel
theorem dD_say_51 : decode cD_say 51 = .ok (.getfield 19, 3) := by decide +kernel
theorem dD_say_54 : decode cD_say 54 = .ok (.iconst 1, 1) := by decide +kernel
theorem dD_say_55 : decode cD_say 55 = .ok (.putfield 121, 3) := by decide +kernel
theorem dD_say_58 : decode cD_say 58 = .ok (.goto 13, 3) := by decide +kernel
theorem dD_say_61 : decode cD_say 61 = .ok (.new 79, 3) := by decide +kernel
theorem dD_say_64 : decode cD_say 64 = .ok (.dup, 1) := by decide +kernel
theorem dD_say_65 : decode cD_say 65 = .ok (.ldc 124, 2) := by decide +kernel
theorem dD_say_67 : decode cD_say 67 = .ok (.invokespecial 83, 3) := by decide +kernel
theorem dD_say_70 : decode cD_say 70 = .ok (.athrow, 1) := by decide +kernel
theorem dD_say_71 : decode cD_say 71 = .ok (.return_, 1) := by decide +kernel
theorem dD_unit_0 : decode cD_unit 0 = .ok (.iload_n 1, 1) := by decide +kernel
theorem dD_unit_1 : decode cD_unit 1 = .ok (.ifCond .lt 9, 3) := by decide +kernel
theorem dD_unit_4 : decode cD_unit 4 = .ok (.iload_n 1, 1) := by decide +kernel
theorem dD_unit_5 : decode cD_unit 5 = .ok (.bipush 10, 2) := by decide +kernel
theorem dD_unit_7 : decode cD_unit 7 = .ok (.if_icmp .lt 13, 3) := by decide +kernel
theorem dD_unit_10 : decode cD_unit 10 = .ok (.new 79, 3) := by decide +kernel
theorem dD_unit_13 : decode cD_unit 13 = .ok (.dup, 1) := by decide +kernel
theorem dD_unit_14 : decode cD_unit 14 = .ok (.ldc 126, 2) := by decide +kernel
theorem dD_unit_16 : decode cD_unit 16 = .ok (.invokespecial 83, 3) := by decide +kernel
theorem dD_unit_19 : decode cD_unit 19 = .ok (.athrow, 1) := by decide +kernel
theorem dD_unit_20 : decode cD_unit 20 = .ok (.iload_n 2, 1) := by decide +kernel
theorem dD_unit_21 : decode cD_unit 21 = .ok (.ifCond .eq 25, 3) := by decide +kernel
theorem dD_unit_24 : decode cD_unit 24 = .ok (.aload_n 0, 1) := by decide +kernel
theorem dD_unit_25 : decode cD_unit 25 = .ok (.getfield 19, 3) := by decide +kernel
theorem dD_unit_28 : decode cD_unit 28 = .ok (.aload_n 0, 1) := by decide +kernel
theorem dD_unit_29 : decode cD_unit 29 = .ok (.getfield 19, 3) := by decide +kernel
theorem dD_unit_32 : decode cD_unit 32 = .ok (.getfield 128, 3) := by decide +kernel
theorem dD_unit_35 : decode cD_unit 35 = .ok (.iload_n 1, 1) := by decide +kernel
theorem dD_unit_36 : decode cD_unit 36 = .ok (.iconst 1, 1) := by decide +kernel
theorem dD_unit_37 : decode cD_unit 37 = .ok (.invokestatic 105, 3) := by decide +kernel
theorem dD_unit_40 : decode cD_unit 40 = .ok (.putfield 128, 3) := by decide +kernel
theorem dD_unit_43 : decode cD_unit 43 = .ok (.goto 22, 3) := by decide +kernel
theorem dD_unit_46 : decode cD_unit 46 = .ok (.aload_n 0, 1) := by decide +kernel
theorem dD_unit_47 : decode cD_unit 47 = .ok (.getfield 19, 3) := by decide +kernel
theorem dD_unit_50 : decode cD_unit 50 = .ok (.aload_n 0, 1) := by decide +kernel
theorem dD_unit_51 : decode cD_unit 51 = .ok (.getfield 19, 3) := by decide +kernel
theorem dD_unit_54 : decode cD_unit 54 = .ok (.getfield 131, 3) := by decide +kernel
theorem dD_unit_57 : decode cD_unit 57 = .ok (.iload_n 1, 1) := by decide +kernel
theorem dD_unit_58 : decode cD_unit 58 = .ok (.iconst 1, 1) := by decide +kernel
theorem dD_unit_59 : decode cD_unit 59 = .ok (.invokestatic 105, 3) := by decide +kernel
theorem dD_unit_62 : decode cD_unit 62 = .ok (.putfield 131, 3) := by decide +kernel
theorem dD_unit_65 : decode cD_unit 65 = .ok (.return_, 1) := by decide +kernel
theorem dD_cycle_0 : decode cD_cycle 0 = .ok (.aload_n 0, 1) := by decide +kernel
theorem dD_cycle_1 : decode cD_cycle 1 = .ok (.getfield 134, 3) := by decide +kernel
theorem dD_cycle_4 : decode cD_cycle 4 = .ok (.ldc 137, 2) := by decide +kernel
theorem dD_cycle_6 : decode cD_cycle 6 = .ok (.if_icmp .lt 13, 3) := by decide +kernel
theorem dD_cycle_9 : decode cD_cycle 9 = .ok (.new 138, 3) := by decide +kernel
theorem dD_cycle_12 : decode cD_cycle 12 = .ok (.dup, 1) := by decide +kernel
theorem dD_cycle_13 : decode cD_cycle 13 = .ok (.ldc 140, 2) := by decide +kernel
theorem dD_cycle_15 : decode cD_cycle 15 = .ok (.invokespecial 142, 3) := by decide +kernel
theorem dD_cycle_18 : decode cD_cycle 18 = .ok (.athrow, 1) := by decide +kernel
theorem dD_cycle_19 : decode cD_cycle 19 = .ok (.aload_n 0, 1) := by decide +kernel
theorem dD_cycle_20 : decode cD_cycle 20 = .ok (.dup, 1) := by decide +kernel
theorem dD_cycle_21 : decode cD_cycle 21 = .ok (.getfield 134, 3) := by decide +kernel
theorem dD_cycle_24 : decode cD_cycle 24 = .ok (.iconst 1, 1) := by decide +kernel
theorem dD_cycle_25 : decode cD_cycle 25 = .ok (.iadd, 1) := by decide +kernel
theorem dD_cycle_26 : decode cD_cycle 26 = .ok (.putfield 134, 3) := by decide +kernel
theorem dD_cycle_29 : decode cD_cycle 29 = .ok (.aload_n 0, 1) := by decide +kernel
theorem dD_cycle_30 : decode cD_cycle 30 = .ok (.getfield 40, 3) := by decide +kernel
theorem dD_cycle_33 : decode cD_cycle 33 = .ok (.invokevirtual 143, 3) := by decide +kernel
theorem dD_cycle_36 : decode cD_cycle 36 = .ok (.aload_n 0, 1) := by decide +kernel
theorem dD_cycle_37 : decode cD_cycle 37 = .ok (.getfield 146, 3) := by decide +kernel
theorem dD_cycle_40 : decode cD_cycle 40 = .ok (.iconst 4, 1) := by decide +kernel
theorem dD_cycle_41 : decode cD_cycle 41 = .ok (.if_icmp .eq 7, 3) := by decide +kernel
theorem dD_cycle_44 : decode cD_cycle 44 = .ok (.aload_n 0, 1) := by decide +kernel
theorem dD_cycle_45 : decode cD_cycle 45 = .ok (.invokevirtual 149, 3) := by decide +kernel
theorem dD_cycle_48 : decode cD_cycle 48 = .ok (.aload_n 0, 1) := by decide +kernel
theorem dD_cycle_49 : decode cD_cycle 49 = .ok (.getfield 19, 3) := by decide +kernel
theorem dD_cycle_52 : decode cD_cycle 52 = .ok (.invokevirtual 152, 3) := by decide +kernel
theorem dD_cycle_55 : decode cD_cycle 55 = .ok (.aload_n 0, 1) := by decide +kernel
theorem dD_cycle_56 : decode cD_cycle 56 = .ok (.getfield 146, 3) := by decide +kernel
theorem dD_cycle_59 : decode cD_cycle 59 = .ok (.ireturn, 1) := by decide +kernel
theorem dD_told_0 : decode cD_told 0 = .ok (.iload_n 1, 1) := by decide +kernel
theorem dD_told_1 : decode cD_told 1 = .ok (.tableswitch 115 0 4 #[35, 53, 83, 91, 99], 35) := by decide +kernel
theorem dD_told_36 : decode cD_told 36 = .ok (.aload_n 0, 1) := by decide +kernel
theorem dD_told_37 : decode cD_told 37 = .ok (.getfield 40, 3) := by decide +kernel
theorem dD_told_40 : decode cD_told 40 = .ok (.getfield 153, 3) := by decide +kernel
theorem dD_told_43 : decode cD_told 43 = .ok (.aload_n 0, 1) := by decide +kernel
theorem dD_told_44 : decode cD_told 44 = .ok (.getfield 40, 3) := by decide +kernel
theorem dD_told_47 : decode cD_told 47 = .ok (.getfield 156, 3) := by decide +kernel
theorem dD_told_50 : decode cD_told 50 = .ok (.iconst 4, 1) := by decide +kernel
theorem dD_told_51 : decode cD_told 51 = .ok (.ishl, 1) := by decide +kernel
theorem dD_told_52 : decode cD_told 52 = .ok (.ior, 1) := by decide +kernel
theorem dD_told_53 : decode cD_told 53 = .ok (.ireturn, 1) := by decide +kernel
theorem dD_told_54 : decode cD_told 54 = .ok (.aload_n 0, 1) := by decide +kernel
theorem dD_told_55 : decode cD_told 55 = .ok (.getfield 40, 3) := by decide +kernel
theorem dD_told_58 : decode cD_told 58 = .ok (.getfield 159, 3) := by decide +kernel
theorem dD_told_61 : decode cD_told 61 = .ok (.ifCond .eq 7, 3) := by decide +kernel
theorem dD_told_64 : decode cD_told 64 = .ok (.iconst 1, 1) := by decide +kernel
theorem dD_told_65 : decode cD_told 65 = .ok (.goto 18, 3) := by decide +kernel
theorem dD_told_68 : decode cD_told 68 = .ok (.aload_n 0, 1) := by decide +kernel
theorem dD_told_69 : decode cD_told 69 = .ok (.getfield 40, 3) := by decide +kernel
theorem dD_told_72 : decode cD_told 72 = .ok (.getfield 162, 3) := by decide +kernel
theorem dD_told_75 : decode cD_told 75 = .ok (.ifCond .eq 7, 3) := by decide +kernel
theorem dD_told_78 : decode cD_told 78 = .ok (.iconst 2, 1) := by decide +kernel
theorem dD_told_79 : decode cD_told 79 = .ok (.goto 4, 3) := by decide +kernel
theorem dD_told_82 : decode cD_told 82 = .ok (.iconst 0, 1) := by decide +kernel
theorem dD_told_83 : decode cD_told 83 = .ok (.ireturn, 1) := by decide +kernel
theorem dD_told_84 : decode cD_told 84 = .ok (.aload_n 0, 1) := by decide +kernel
theorem dD_told_85 : decode cD_told 85 = .ok (.getfield 40, 3) := by decide +kernel
theorem dD_told_88 : decode cD_told 88 = .ok (.getfield 165, 3) := by decide +kernel
theorem dD_told_91 : decode cD_told 91 = .ok (.ireturn, 1) := by decide +kernel
theorem dD_told_92 : decode cD_told 92 = .ok (.aload_n 0, 1) := by decide +kernel
theorem dD_told_93 : decode cD_told 93 = .ok (.getfield 40, 3) := by decide +kernel
theorem dD_told_96 : decode cD_told 96 = .ok (.getfield 168, 3) := by decide +kernel
theorem dD_told_99 : decode cD_told 99 = .ok (.ireturn, 1) := by decide +kernel
theorem dD_told_100 : decode cD_told 100 = .ok (.aload_n 0, 1) := by decide +kernel
theorem dD_told_101 : decode cD_told 101 = .ok (.getfield 40, 3) := by decide +kernel
theorem dD_told_104 : decode cD_told 104 = .ok (.getfield 171, 3) := by decide +kernel
theorem dD_told_107 : decode cD_told 107 = .ok (.ifCond .eq 7, 3) := by decide +kernel
theorem dD_told_110 : decode cD_told 110 = .ok (.iconst 1, 1) := by decide +kernel
theorem dD_told_111 : decode cD_told 111 = .ok (.goto 4, 3) := by decide +kernel
theorem dD_told_114 : decode cD_told 114 = .ok (.iconst 0, 1) := by decide +kernel
theorem dD_told_115 : decode cD_told 115 = .ok (.ireturn, 1) := by decide +kernel
theorem dD_told_116 : decode cD_told 116 = .ok (.new 79, 3) := by decide +kernel
theorem dD_told_119 : decode cD_told 119 = .ok (.dup, 1) := by decide +kernel
theorem dD_told_120 : decode cD_told 120 = .ok (.ldc 174, 2) := by decide +kernel
theorem dD_told_122 : decode cD_told 122 = .ok (.invokespecial 83, 3) := by decide +kernel
theorem dD_told_125 : decode cD_told 125 = .ok (.athrow, 1) := by decide +kernel
theorem dD_state_0 : decode cD_state 0 = .ok (.iload_n 1, 1) := by decide +kernel
theorem dD_state_1 : decode cD_state 1 = .ok (.tableswitch 137 0 9 #[55, 63, 71, 79, 87, 95, 103, 111, 127, 132], 55) := by decide +kernel
theorem dD_state_56 : decode cD_state 56 = .ok (.aload_n 0, 1) := by decide +kernel
theorem dD_state_57 : decode cD_state 57 = .ok (.getfield 47, 3) := by decide +kernel
theorem dD_state_60 : decode cD_state 60 = .ok (.getfield 176, 3) := by decide +kernel
theorem dD_state_63 : decode cD_state 63 = .ok (.ireturn, 1) := by decide +kernel
theorem dD_state_64 : decode cD_state 64 = .ok (.aload_n 0, 1) := by decide +kernel
theorem dD_state_65 : decode cD_state 65 = .ok (.getfield 47, 3) := by decide +kernel
theorem dD_state_68 : decode cD_state 68 = .ok (.getfield 179, 3) := by decide +kernel
theorem dD_state_71 : decode cD_state 71 = .ok (.ireturn, 1) := by decide +kernel
theorem dD_state_72 : decode cD_state 72 = .ok (.aload_n 0, 1) := by decide +kernel
theorem dD_state_73 : decode cD_state 73 = .ok (.getfield 51, 3) := by decide +kernel
theorem dD_state_76 : decode cD_state 76 = .ok (.getfield 176, 3) := by decide +kernel
theorem dD_state_79 : decode cD_state 79 = .ok (.ireturn, 1) := by decide +kernel
theorem dD_state_80 : decode cD_state 80 = .ok (.aload_n 0, 1) := by decide +kernel
theorem dD_state_81 : decode cD_state 81 = .ok (.getfield 51, 3) := by decide +kernel
theorem dD_state_84 : decode cD_state 84 = .ok (.getfield 179, 3) := by decide +kernel
theorem dD_state_87 : decode cD_state 87 = .ok (.ireturn, 1) := by decide +kernel
theorem dD_state_88 : decode cD_state 88 = .ok (.aload_n 0, 1) := by decide +kernel
theorem dD_state_89 : decode cD_state 89 = .ok (.getfield 26, 3) := by decide +kernel
theorem dD_state_92 : decode cD_state 92 = .ok (.getfield 182, 3) := by decide +kernel
theorem dD_state_95 : decode cD_state 95 = .ok (.ireturn, 1) := by decide +kernel
theorem dD_state_96 : decode cD_state 96 = .ok (.aload_n 0, 1) := by decide +kernel
theorem dD_state_97 : decode cD_state 97 = .ok (.getfield 26, 3) := by decide +kernel
theorem dD_state_100 : decode cD_state 100 = .ok (.getfield 185, 3) := by decide +kernel
theorem dD_state_103 : decode cD_state 103 = .ok (.ireturn, 1) := by decide +kernel
theorem dD_state_104 : decode cD_state 104 = .ok (.aload_n 0, 1) := by decide +kernel
theorem dD_state_105 : decode cD_state 105 = .ok (.getfield 33, 3) := by decide +kernel
theorem dD_state_108 : decode cD_state 108 = .ok (.getfield 188, 3) := by decide +kernel
theorem dD_state_111 : decode cD_state 111 = .ok (.ireturn, 1) := by decide +kernel
theorem dD_state_112 : decode cD_state 112 = .ok (.aload_n 0, 1) := by decide +kernel
theorem dD_state_113 : decode cD_state 113 = .ok (.getfield 33, 3) := by decide +kernel
theorem dD_state_116 : decode cD_state 116 = .ok (.getfield 191, 3) := by decide +kernel
theorem dD_state_119 : decode cD_state 119 = .ok (.ifCond .eq 7, 3) := by decide +kernel
theorem dD_state_122 : decode cD_state 122 = .ok (.iconst 1, 1) := by decide +kernel
theorem dD_state_123 : decode cD_state 123 = .ok (.goto 4, 3) := by decide +kernel
theorem dD_state_126 : decode cD_state 126 = .ok (.iconst 0, 1) := by decide +kernel
theorem dD_state_127 : decode cD_state 127 = .ok (.ireturn, 1) := by decide +kernel
theorem dD_state_128 : decode cD_state 128 = .ok (.aload_n 0, 1) := by decide +kernel
theorem dD_state_129 : decode cD_state 129 = .ok (.getfield 146, 3) := by decide +kernel
theorem dD_state_132 : decode cD_state 132 = .ok (.ireturn, 1) := by decide +kernel
theorem dD_state_133 : decode cD_state 133 = .ok (.aload_n 0, 1) := by decide +kernel
theorem dD_state_134 : decode cD_state 134 = .ok (.getfield 134, 3) := by decide +kernel
theorem dD_state_137 : decode cD_state 137 = .ok (.ireturn, 1) := by decide +kernel
theorem dD_state_138 : decode cD_state 138 = .ok (.new 79, 3) := by decide +kernel
theorem dD_state_141 : decode cD_state 141 = .ok (.dup, 1) := by decide +kernel
theorem dD_state_142 : decode cD_state 142 = .ok (.ldc 194, 2) := by decide +kernel
theorem dD_state_144 : decode cD_state 144 = .ok (.invokespecial 83, 3) := by decide +kernel
theorem dD_state_147 : decode cD_state 147 = .ok (.athrow, 1) := by decide +kernel
theorem dD_limitsAreSound_0 : decode cD_limitsAreSound 0 = .ok (.iconst 0, 1) := by decide +kernel
theorem dD_limitsAreSound_1 : decode cD_limitsAreSound 1 = .ok (.iload_n 1, 1) := by decide +kernel
theorem dD_limitsAreSound_2 : decode cD_limitsAreSound 2 = .ok (.if_icmp .gt 35, 3) := by decide +kernel
theorem dD_limitsAreSound_5 : decode cD_limitsAreSound 5 = .ok (.iload_n 1, 1) := by decide +kernel
theorem dD_limitsAreSound_6 : decode cD_limitsAreSound 6 = .ok (.iload_n 2, 1) := by decide +kernel
theorem dD_limitsAreSound_7 : decode cD_limitsAreSound 7 = .ok (.if_icmp .ge 30, 3) := by decide +kernel
theorem dD_limitsAreSound_10 : decode cD_limitsAreSound 10 = .ok (.iload_n 2, 1) := by decide +kernel
theorem dD_limitsAreSound_11 : decode cD_limitsAreSound 11 = .ok (.iload_n 3, 1) := by decide +kernel
theorem dD_limitsAreSound_12 : decode cD_limitsAreSound 12 = .ok (.if_icmp .ge 25, 3) := by decide +kernel
theorem dD_limitsAreSound_15 : decode cD_limitsAreSound 15 = .ok (.iload_n 3, 1) := by decide +kernel
theorem dD_limitsAreSound_16 : decode cD_limitsAreSound 16 = .ok (.iload 4, 2) := by decide +kernel
theorem dD_limitsAreSound_18 : decode cD_limitsAreSound 18 = .ok (.if_icmp .ge 19, 3) := by decide +kernel
theorem dD_limitsAreSound_21 : decode cD_limitsAreSound 21 = .ok (.iload 4, 2) := by decide +kernel
theorem dD_limitsAreSound_23 : decode cD_limitsAreSound 23 = .ok (.iload_n 0, 1) := by decide +kernel
theorem dD_limitsAreSound_24 : decode cD_limitsAreSound 24 = .ok (.if_icmp .gt 13, 3) := by decide +kernel
theorem dD_limitsAreSound_27 : decode cD_limitsAreSound 27 = .ok (.iload_n 0, 1) := by decide +kernel
theorem dD_limitsAreSound_28 : decode cD_limitsAreSound 28 = .ok (.ldc 137, 2) := by decide +kernel
theorem dD_limitsAreSound_30 : decode cD_limitsAreSound 30 = .ok (.if_icmp .gt 7, 3) := by decide +kernel
theorem dD_limitsAreSound_33 : decode cD_limitsAreSound 33 = .ok (.iconst 1, 1) := by decide +kernel
theorem dD_limitsAreSound_34 : decode cD_limitsAreSound 34 = .ok (.goto 4, 3) := by decide +kernel
theorem dD_limitsAreSound_37 : decode cD_limitsAreSound 37 = .ok (.iconst 0, 1) := by decide +kernel
theorem dD_limitsAreSound_38 : decode cD_limitsAreSound 38 = .ok (.ireturn, 1) := by decide +kernel
theorem dD_ratesAreSound_0 : decode cD_ratesAreSound 0 = .ok (.iload_n 0, 1) := by decide +kernel
theorem dD_ratesAreSound_1 : decode cD_ratesAreSound 1 = .ok (.iconst 0, 1) := by decide +kernel
theorem dD_ratesAreSound_2 : decode cD_ratesAreSound 2 = .ok (.ldc 196, 2) := by decide +kernel
theorem dD_ratesAreSound_4 : decode cD_ratesAreSound 4 = .ok (.invokestatic 197, 3) := by decide +kernel
theorem dD_ratesAreSound_7 : decode cD_ratesAreSound 7 = .ok (.ifCond .eq 37, 3) := by decide +kernel
theorem dD_ratesAreSound_10 : decode cD_ratesAreSound 10 = .ok (.iload_n 1, 1) := by decide +kernel
theorem dD_ratesAreSound_11 : decode cD_ratesAreSound 11 = .ok (.iconst 0, 1) := by decide +kernel
theorem dD_ratesAreSound_12 : decode cD_ratesAreSound 12 = .ok (.ldc 196, 2) := by decide +kernel
theorem dD_ratesAreSound_14 : decode cD_ratesAreSound 14 = .ok (.invokestatic 197, 3) := by decide +kernel
theorem dD_ratesAreSound_17 : decode cD_ratesAreSound 17 = .ok (.ifCond .eq 27, 3) := by decide +kernel
theorem dD_ratesAreSound_20 : decode cD_ratesAreSound 20 = .ok (.iload_n 2, 1) := by decide +kernel
theorem dD_ratesAreSound_21 : decode cD_ratesAreSound 21 = .ok (.iconst 0, 1) := by decide +kernel
theorem dD_ratesAreSound_22 : decode cD_ratesAreSound 22 = .ok (.ldc 196, 2) := by decide +kernel
theorem dD_ratesAreSound_24 : decode cD_ratesAreSound 24 = .ok (.invokestatic 197, 3) := by decide +kernel
theorem dD_ratesAreSound_27 : decode cD_ratesAreSound 27 = .ok (.ifCond .eq 17, 3) := by decide +kernel
theorem dD_ratesAreSound_30 : decode cD_ratesAreSound 30 = .ok (.iload_n 3, 1) := by decide +kernel
theorem dD_ratesAreSound_31 : decode cD_ratesAreSound 31 = .ok (.iconst 1, 1) := by decide +kernel
theorem dD_ratesAreSound_32 : decode cD_ratesAreSound 32 = .ok (.ldc 196, 2) := by decide +kernel
theorem dD_ratesAreSound_34 : decode cD_ratesAreSound 34 = .ok (.invokestatic 197, 3) := by decide +kernel
theorem dD_ratesAreSound_37 : decode cD_ratesAreSound 37 = .ok (.ifCond .eq 7, 3) := by decide +kernel
theorem dD_ratesAreSound_40 : decode cD_ratesAreSound 40 = .ok (.iconst 1, 1) := by decide +kernel
theorem dD_ratesAreSound_41 : decode cD_ratesAreSound 41 = .ok (.goto 4, 3) := by decide +kernel
theorem dD_ratesAreSound_44 : decode cD_ratesAreSound 44 = .ok (.iconst 0, 1) := by decide +kernel
theorem dD_ratesAreSound_45 : decode cD_ratesAreSound 45 = .ok (.ireturn, 1) := by decide +kernel
theorem dD_startAnew_0 : decode cD_startAnew 0 = .ok (.aload_n 0, 1) := by decide +kernel
theorem dD_startAnew_1 : decode cD_startAnew 1 = .ok (.iconst 0, 1) := by decide +kernel
theorem dD_startAnew_2 : decode cD_startAnew 2 = .ok (.putfield 146, 3) := by decide +kernel
theorem dD_startAnew_5 : decode cD_startAnew 5 = .ok (.aload_n 0, 1) := by decide +kernel
theorem dD_startAnew_6 : decode cD_startAnew 6 = .ok (.iconst 0, 1) := by decide +kernel
theorem dD_startAnew_7 : decode cD_startAnew 7 = .ok (.putfield 134, 3) := by decide +kernel
theorem dD_startAnew_10 : decode cD_startAnew 10 = .ok (.aload_n 0, 1) := by decide +kernel
theorem dD_startAnew_11 : decode cD_startAnew 11 = .ok (.iconst 0, 1) := by decide +kernel
theorem dD_startAnew_12 : decode cD_startAnew 12 = .ok (.putfield 201, 3) := by decide +kernel
theorem dD_startAnew_15 : decode cD_startAnew 15 = .ok (.aload_n 0, 1) := by decide +kernel
theorem dD_startAnew_16 : decode cD_startAnew 16 = .ok (.iconst 0, 1) := by decide +kernel
theorem dD_startAnew_17 : decode cD_startAnew 17 = .ok (.putfield 204, 3) := by decide +kernel
theorem dD_startAnew_20 : decode cD_startAnew 20 = .ok (.aload_n 0, 1) := by decide +kernel
theorem dD_startAnew_21 : decode cD_startAnew 21 = .ok (.getfield 19, 3) := by decide +kernel
theorem dD_startAnew_24 : decode cD_startAnew 24 = .ok (.invokevirtual 152, 3) := by decide +kernel
theorem dD_startAnew_27 : decode cD_startAnew 27 = .ok (.aload_n 0, 1) := by decide +kernel
theorem dD_startAnew_28 : decode cD_startAnew 28 = .ok (.getfield 26, 3) := by decide +kernel
theorem dD_startAnew_31 : decode cD_startAnew 31 = .ok (.invokevirtual 207, 3) := by decide +kernel
theorem dD_startAnew_34 : decode cD_startAnew 34 = .ok (.aload_n 0, 1) := by decide +kernel
theorem dD_startAnew_35 : decode cD_startAnew 35 = .ok (.getfield 33, 3) := by decide +kernel
theorem dD_startAnew_38 : decode cD_startAnew 38 = .ok (.invokevirtual 208, 3) := by decide +kernel
theorem dD_startAnew_41 : decode cD_startAnew 41 = .ok (.aload_n 0, 1) := by decide +kernel
theorem dD_startAnew_42 : decode cD_startAnew 42 = .ok (.getfield 40, 3) := by decide +kernel
theorem dD_startAnew_45 : decode cD_startAnew 45 = .ok (.invokevirtual 143, 3) := by decide +kernel
theorem dD_startAnew_48 : decode cD_startAnew 48 = .ok (.aload_n 0, 1) := by decide +kernel
theorem dD_startAnew_49 : decode cD_startAnew 49 = .ok (.getfield 47, 3) := by decide +kernel
theorem dD_startAnew_52 : decode cD_startAnew 52 = .ok (.iconst 0, 1) := by decide +kernel
theorem dD_startAnew_53 : decode cD_startAnew 53 = .ok (.aload_n 0, 1) := by decide +kernel
theorem dD_startAnew_54 : decode cD_startAnew 54 = .ok (.getfield 12, 3) := by decide +kernel
theorem dD_startAnew_57 : decode cD_startAnew 57 = .ok (.getfield 209, 3) := by decide +kernel
theorem dD_startAnew_60 : decode cD_startAnew 60 = .ok (.invokevirtual 212, 3) := by decide +kernel
theorem dD_startAnew_63 : decode cD_startAnew 63 = .ok (.aload_n 0, 1) := by decide +kernel
theorem dD_startAnew_64 : decode cD_startAnew 64 = .ok (.getfield 51, 3) := by decide +kernel
theorem dD_startAnew_67 : decode cD_startAnew 67 = .ok (.iconst 0, 1) := by decide +kernel
theorem dD_startAnew_68 : decode cD_startAnew 68 = .ok (.aload_n 0, 1) := by decide +kernel
theorem dD_startAnew_69 : decode cD_startAnew 69 = .ok (.getfield 12, 3) := by decide +kernel
