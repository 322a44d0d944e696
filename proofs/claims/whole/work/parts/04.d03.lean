theorem dX_anew_66 : decode cX_anew 66 = .ok (.aload_n 0, 1) := by decide +kernel
theorem dX_anew_67 : decode cX_anew 67 = .ok (.aload_n 0, 1) := by decide +kernel
theorem dX_anew_68 : decode cX_anew 68 = .ok (.getfield 54, 3) := by decide +kernel
theorem dX_anew_71 : decode cX_anew 71 = .ok (.putfield 90, 3) := by decide +kernel
theorem dX_anew_74 : decode cX_anew 74 = .ok (.aload_n 0, 1) := by decide +kernel
theorem dX_anew_75 : decode cX_anew 75 = .ok (.iconst 0, 1) := by decide +kernel
theorem dX_anew_76 : decode cX_anew 76 = .ok (.putfield 93, 3) := by decide +kernel
theorem dX_anew_79 : decode cX_anew 79 = .ok (.aload_n 0, 1) := by decide +kernel
theorem dX_anew_80 : decode cX_anew 80 = .ok (.aload_n 0, 1) := by decide +kernel
theorem dX_anew_81 : decode cX_anew 81 = .ok (.getfield 69, 3) := by decide +kernel
theorem dX_anew_84 : decode cX_anew 84 = .ok (.putfield 96, 3) := by decide +kernel
theorem dX_anew_87 : decode cX_anew 87 = .ok (.aload_n 0, 1) := by decide +kernel
theorem dX_anew_88 : decode cX_anew 88 = .ok (.iconst 0, 1) := by decide +kernel
theorem dX_anew_89 : decode cX_anew 89 = .ok (.putfield 99, 3) := by decide +kernel
theorem dX_anew_92 : decode cX_anew 92 = .ok (.aload_n 0, 1) := by decide +kernel
theorem dX_anew_93 : decode cX_anew 93 = .ok (.iconst 0, 1) := by decide +kernel
theorem dX_anew_94 : decode cX_anew 94 = .ok (.putfield 102, 3) := by decide +kernel
theorem dX_anew_97 : decode cX_anew 97 = .ok (.aload_n 0, 1) := by decide +kernel
theorem dX_anew_98 : decode cX_anew 98 = .ok (.iconst 0, 1) := by decide +kernel
theorem dX_anew_99 : decode cX_anew 99 = .ok (.putfield 106, 3) := by decide +kernel
theorem dX_anew_102 : decode cX_anew 102 = .ok (.iconst 0, 1) := by decide +kernel
theorem dX_anew_103 : decode cX_anew 103 = .ok (.istore 10, 2) := by decide +kernel
theorem dX_anew_105 : decode cX_anew 105 = .ok (.iload 10, 2) := by decide +kernel
theorem dX_anew_107 : decode cX_anew 107 = .ok (.bipush 10, 2) := by decide +kernel
theorem dX_anew_109 : decode cX_anew 109 = .ok (.if_icmp .ge 25, 3) := by decide +kernel
theorem dX_anew_112 : decode cX_anew 112 = .ok (.aload_n 0, 1) := by decide +kernel
theorem dX_anew_113 : decode cX_anew 113 = .ok (.getfield 7, 3) := by decide +kernel
theorem dX_anew_116 : decode cX_anew 116 = .ok (.iload 10, 2) := by decide +kernel
theorem dX_anew_118 : decode cX_anew 118 = .ok (.iconst 0, 1) := by decide +kernel
theorem dX_anew_119 : decode cX_anew 119 = .ok (.bastore, 1) := by decide +kernel
theorem dX_anew_120 : decode cX_anew 120 = .ok (.aload_n 0, 1) := by decide +kernel
theorem dX_anew_121 : decode cX_anew 121 = .ok (.getfield 13, 3) := by decide +kernel
theorem dX_anew_124 : decode cX_anew 124 = .ok (.iload 10, 2) := by decide +kernel
theorem dX_anew_126 : decode cX_anew 126 = .ok (.iconst 0, 1) := by decide +kernel
theorem dX_anew_127 : decode cX_anew 127 = .ok (.bastore, 1) := by decide +kernel
theorem dX_anew_128 : decode cX_anew 128 = .ok (.iinc 10 1, 3) := by decide +kernel
theorem dX_anew_131 : decode cX_anew 131 = .ok (.goto (-26), 3) := by decide +kernel
theorem dX_anew_134 : decode cX_anew 134 = .ok (.iconst 0, 1) := by decide +kernel
theorem dX_anew_135 : decode cX_anew 135 = .ok (.istore 10, 2) := by decide +kernel
theorem dX_anew_137 : decode cX_anew 137 = .ok (.iload 10, 2) := by decide +kernel
theorem dX_anew_139 : decode cX_anew 139 = .ok (.iconst 4, 1) := by decide +kernel
theorem dX_anew_140 : decode cX_anew 140 = .ok (.if_icmp .ge 33, 3) := by decide +kernel
theorem dX_anew_143 : decode cX_anew 143 = .ok (.aload_n 0, 1) := by decide +kernel
theorem dX_anew_144 : decode cX_anew 144 = .ok (.getfield 19, 3) := by decide +kernel
theorem dX_anew_147 : decode cX_anew 147 = .ok (.iload 10, 2) := by decide +kernel
theorem dX_anew_149 : decode cX_anew 149 = .ok (.iconst 0, 1) := by decide +kernel
theorem dX_anew_150 : decode cX_anew 150 = .ok (.bastore, 1) := by decide +kernel
theorem dX_anew_151 : decode cX_anew 151 = .ok (.aload_n 0, 1) := by decide +kernel
theorem dX_anew_152 : decode cX_anew 152 = .ok (.getfield 22, 3) := by decide +kernel
theorem dX_anew_155 : decode cX_anew 155 = .ok (.iload 10, 2) := by decide +kernel
theorem dX_anew_157 : decode cX_anew 157 = .ok (.iconst 0, 1) := by decide +kernel
theorem dX_anew_158 : decode cX_anew 158 = .ok (.bastore, 1) := by decide +kernel
theorem dX_anew_159 : decode cX_anew 159 = .ok (.aload_n 0, 1) := by decide +kernel
theorem dX_anew_160 : decode cX_anew 160 = .ok (.getfield 25, 3) := by decide +kernel
theorem dX_anew_163 : decode cX_anew 163 = .ok (.iload 10, 2) := by decide +kernel
theorem dX_anew_165 : decode cX_anew 165 = .ok (.iconst 0, 1) := by decide +kernel
theorem dX_anew_166 : decode cX_anew 166 = .ok (.bastore, 1) := by decide +kernel
theorem dX_anew_167 : decode cX_anew 167 = .ok (.iinc 10 1, 3) := by decide +kernel
theorem dX_anew_170 : decode cX_anew 170 = .ok (.goto (-33), 3) := by decide +kernel
theorem dX_anew_173 : decode cX_anew 173 = .ok (.aload_n 0, 1) := by decide +kernel
theorem dX_anew_174 : decode cX_anew 174 = .ok (.invokevirtual 109, 3) := by decide +kernel
theorem dX_anew_177 : decode cX_anew 177 = .ok (.aload_n 0, 1) := by decide +kernel
theorem dX_anew_178 : decode cX_anew 178 = .ok (.invokevirtual 112, 3) := by decide +kernel
theorem dX_anew_181 : decode cX_anew 181 = .ok (.return_, 1) := by decide +kernel
theorem dX_forget_0 : decode cX_forget 0 = .ok (.aload_n 0, 1) := by decide +kernel
theorem dX_forget_1 : decode cX_forget 1 = .ok (.iconst 0, 1) := by decide +kernel
theorem dX_forget_2 : decode cX_forget 2 = .ok (.putfield 115, 3) := by decide +kernel
theorem dX_forget_5 : decode cX_forget 5 = .ok (.aload_n 0, 1) := by decide +kernel
theorem dX_forget_6 : decode cX_forget 6 = .ok (.iconst 0, 1) := by decide +kernel
theorem dX_forget_7 : decode cX_forget 7 = .ok (.putfield 118, 3) := by decide +kernel
theorem dX_forget_10 : decode cX_forget 10 = .ok (.aload_n 0, 1) := by decide +kernel
theorem dX_forget_11 : decode cX_forget 11 = .ok (.iconst 0, 1) := by decide +kernel
theorem dX_forget_12 : decode cX_forget 12 = .ok (.putfield 121, 3) := by decide +kernel
theorem dX_forget_15 : decode cX_forget 15 = .ok (.aload_n 0, 1) := by decide +kernel
theorem dX_forget_16 : decode cX_forget 16 = .ok (.iconst 0, 1) := by decide +kernel
theorem dX_forget_17 : decode cX_forget 17 = .ok (.putfield 124, 3) := by decide +kernel
theorem dX_forget_20 : decode cX_forget 20 = .ok (.aload_n 0, 1) := by decide +kernel
theorem dX_forget_21 : decode cX_forget 21 = .ok (.iconst 0, 1) := by decide +kernel
theorem dX_forget_22 : decode cX_forget 22 = .ok (.putfield 127, 3) := by decide +kernel
theorem dX_forget_25 : decode cX_forget 25 = .ok (.iconst 0, 1) := by decide +kernel
theorem dX_forget_26 : decode cX_forget 26 = .ok (.istore_n 1, 1) := by decide +kernel
theorem dX_forget_27 : decode cX_forget 27 = .ok (.iload_n 1, 1) := by decide +kernel
theorem dX_forget_28 : decode cX_forget 28 = .ok (.iconst 4, 1) := by decide +kernel
theorem dX_forget_29 : decode cX_forget 29 = .ok (.if_icmp .ge 16, 3) := by decide +kernel
theorem dX_forget_32 : decode cX_forget 32 = .ok (.aload_n 0, 1) := by decide +kernel
theorem dX_forget_33 : decode cX_forget 33 = .ok (.getfield 28, 3) := by decide +kernel
theorem dX_forget_36 : decode cX_forget 36 = .ok (.iload_n 1, 1) := by decide +kernel
theorem dX_forget_37 : decode cX_forget 37 = .ok (.iconst 0, 1) := by decide +kernel
theorem dX_forget_38 : decode cX_forget 38 = .ok (.bastore, 1) := by decide +kernel
theorem dX_forget_39 : decode cX_forget 39 = .ok (.iinc 1 1, 3) := by decide +kernel
theorem dX_forget_42 : decode cX_forget 42 = .ok (.goto (-15), 3) := by decide +kernel
theorem dX_forget_45 : decode cX_forget 45 = .ok (.iconst 0, 1) := by decide +kernel
theorem dX_forget_46 : decode cX_forget 46 = .ok (.istore_n 1, 1) := by decide +kernel
theorem dX_forget_47 : decode cX_forget 47 = .ok (.iload_n 1, 1) := by decide +kernel
theorem dX_forget_48 : decode cX_forget 48 = .ok (.bipush 10, 2) := by decide +kernel
theorem dX_forget_50 : decode cX_forget 50 = .ok (.if_icmp .ge 23, 3) := by decide +kernel
theorem dX_forget_53 : decode cX_forget 53 = .ok (.aload_n 0, 1) := by decide +kernel
theorem dX_forget_54 : decode cX_forget 54 = .ok (.getfield 37, 3) := by decide +kernel
theorem dX_forget_57 : decode cX_forget 57 = .ok (.iload_n 1, 1) := by decide +kernel
theorem dX_forget_58 : decode cX_forget 58 = .ok (.iconst 0, 1) := by decide +kernel
theorem dX_forget_59 : decode cX_forget 59 = .ok (.bastore, 1) := by decide +kernel
theorem dX_forget_60 : decode cX_forget 60 = .ok (.aload_n 0, 1) := by decide +kernel
theorem dX_forget_61 : decode cX_forget 61 = .ok (.getfield 40, 3) := by decide +kernel
theorem dX_forget_64 : decode cX_forget 64 = .ok (.iload_n 1, 1) := by decide +kernel
theorem dX_forget_65 : decode cX_forget 65 = .ok (.iconst 0, 1) := by decide +kernel
theorem dX_forget_66 : decode cX_forget 66 = .ok (.bastore, 1) := by decide +kernel
theorem dX_forget_67 : decode cX_forget 67 = .ok (.iinc 1 1, 3) := by decide +kernel
theorem dX_forget_70 : decode cX_forget 70 = .ok (.goto (-23), 3) := by decide +kernel
theorem dX_forget_73 : decode cX_forget 73 = .ok (.return_, 1) := by decide +kernel
theorem dX_quiet_0 : decode cX_quiet 0 = .ok (.aload_n 0, 1) := by decide +kernel
theorem dX_quiet_1 : decode cX_quiet 1 = .ok (.iconst 0, 1) := by decide +kernel
theorem dX_quiet_2 : decode cX_quiet 2 = .ok (.putfield 130, 3) := by decide +kernel
theorem dX_quiet_5 : decode cX_quiet 5 = .ok (.aload_n 0, 1) := by decide +kernel
theorem dX_quiet_6 : decode cX_quiet 6 = .ok (.iconst 0, 1) := by decide +kernel
theorem dX_quiet_7 : decode cX_quiet 7 = .ok (.putfield 133, 3) := by decide +kernel
theorem dX_quiet_10 : decode cX_quiet 10 = .ok (.aload_n 0, 1) := by decide +kernel
theorem dX_quiet_11 : decode cX_quiet 11 = .ok (.iconst 0, 1) := by decide +kernel
theorem dX_quiet_12 : decode cX_quiet 12 = .ok (.putfield 136, 3) := by decide +kernel
theorem dX_quiet_15 : decode cX_quiet 15 = .ok (.aload_n 0, 1) := by decide +kernel
theorem dX_quiet_16 : decode cX_quiet 16 = .ok (.iconst 0, 1) := by decide +kernel
theorem dX_quiet_17 : decode cX_quiet 17 = .ok (.putfield 139, 3) := by decide +kernel
theorem dX_quiet_20 : decode cX_quiet 20 = .ok (.aload_n 0, 1) := by decide +kernel
theorem dX_quiet_21 : decode cX_quiet 21 = .ok (.iconst 0, 1) := by decide +kernel
theorem dX_quiet_22 : decode cX_quiet 22 = .ok (.putfield 142, 3) := by decide +kernel
theorem dX_quiet_25 : decode cX_quiet 25 = .ok (.return_, 1) := by decide +kernel
theorem dX_begin_0 : decode cX_begin 0 = .ok (.aload_n 0, 1) := by decide +kernel
theorem dX_begin_1 : decode cX_begin 1 = .ok (.iconst 0, 1) := by decide +kernel
theorem dX_begin_2 : decode cX_begin 2 = .ok (.putfield 50, 3) := by decide +kernel
theorem dX_begin_5 : decode cX_begin 5 = .ok (.iload_n 1, 1) := by decide +kernel
theorem dX_begin_6 : decode cX_begin 6 = .ok (.ldc 145, 2) := by decide +kernel
theorem dX_begin_8 : decode cX_begin 8 = .ok (.if_icmp .gt 79, 3) := by decide +kernel
theorem dX_begin_11 : decode cX_begin 11 = .ok (.iload_n 2, 1) := by decide +kernel
theorem dX_begin_12 : decode cX_begin 12 = .ok (.ifCond .lt 75, 3) := by decide +kernel
theorem dX_begin_15 : decode cX_begin 15 = .ok (.iload_n 2, 1) := by decide +kernel
theorem dX_begin_16 : decode cX_begin 16 = .ok (.iload_n 3, 1) := by decide +kernel
theorem dX_begin_17 : decode cX_begin 17 = .ok (.if_icmp .ge 70, 3) := by decide +kernel
theorem dX_begin_20 : decode cX_begin 20 = .ok (.iload_n 3, 1) := by decide +kernel
theorem dX_begin_21 : decode cX_begin 21 = .ok (.iload 4, 2) := by decide +kernel
theorem dX_begin_23 : decode cX_begin 23 = .ok (.if_icmp .ge 64, 3) := by decide +kernel
theorem dX_begin_26 : decode cX_begin 26 = .ok (.iload 4, 2) := by decide +kernel
theorem dX_begin_28 : decode cX_begin 28 = .ok (.iload 5, 2) := by decide +kernel
theorem dX_begin_30 : decode cX_begin 30 = .ok (.if_icmp .ge 57, 3) := by decide +kernel
theorem dX_begin_33 : decode cX_begin 33 = .ok (.iload 5, 2) := by decide +kernel
theorem dX_begin_35 : decode cX_begin 35 = .ok (.iload_n 1, 1) := by decide +kernel
theorem dX_begin_36 : decode cX_begin 36 = .ok (.if_icmp .gt 51, 3) := by decide +kernel
theorem dX_begin_39 : decode cX_begin 39 = .ok (.iload 6, 2) := by decide +kernel
theorem dX_begin_41 : decode cX_begin 41 = .ok (.iconst 0, 1) := by decide +kernel
theorem dX_begin_42 : decode cX_begin 42 = .ok (.ldc 146, 2) := by decide +kernel
theorem dX_begin_44 : decode cX_begin 44 = .ok (.invokestatic 147, 3) := by decide +kernel
theorem dX_begin_47 : decode cX_begin 47 = .ok (.ifCond .eq 40, 3) := by decide +kernel
theorem dX_begin_50 : decode cX_begin 50 = .ok (.iload 7, 2) := by decide +kernel
theorem dX_begin_52 : decode cX_begin 52 = .ok (.iconst 0, 1) := by decide +kernel
theorem dX_begin_53 : decode cX_begin 53 = .ok (.ldc 146, 2) := by decide +kernel
theorem dX_begin_55 : decode cX_begin 55 = .ok (.invokestatic 147, 3) := by decide +kernel
theorem dX_begin_58 : decode cX_begin 58 = .ok (.ifCond .eq 29, 3) := by decide +kernel
theorem dX_begin_61 : decode cX_begin 61 = .ok (.iload 8, 2) := by decide +kernel
theorem dX_begin_63 : decode cX_begin 63 = .ok (.iconst 0, 1) := by decide +kernel
theorem dX_begin_64 : decode cX_begin 64 = .ok (.ldc 146, 2) := by decide +kernel
theorem dX_begin_66 : decode cX_begin 66 = .ok (.invokestatic 147, 3) := by decide +kernel
theorem dX_begin_69 : decode cX_begin 69 = .ok (.ifCond .eq 18, 3) := by decide +kernel
theorem dX_begin_72 : decode cX_begin 72 = .ok (.iload 9, 2) := by decide +kernel
theorem dX_begin_74 : decode cX_begin 74 = .ok (.iconst 1, 1) := by decide +kernel
theorem dX_begin_75 : decode cX_begin 75 = .ok (.ldc 146, 2) := by decide +kernel
theorem dX_begin_77 : decode cX_begin 77 = .ok (.invokestatic 147, 3) := by decide +kernel
theorem dX_begin_80 : decode cX_begin 80 = .ok (.ifCond .eq 7, 3) := by decide +kernel
theorem dX_begin_83 : decode cX_begin 83 = .ok (.iconst 1, 1) := by decide +kernel
theorem dX_begin_84 : decode cX_begin 84 = .ok (.goto 4, 3) := by decide +kernel
theorem dX_begin_87 : decode cX_begin 87 = .ok (.iconst 0, 1) := by decide +kernel
theorem dX_begin_88 : decode cX_begin 88 = .ok (.istore 10, 2) := by decide +kernel
theorem dX_begin_90 : decode cX_begin 90 = .ok (.aload_n 0, 1) := by decide +kernel
theorem dX_begin_91 : decode cX_begin 91 = .ok (.iload 10, 2) := by decide +kernel
theorem dX_begin_93 : decode cX_begin 93 = .ok (.ifCond .ne 7, 3) := by decide +kernel
theorem dX_begin_96 : decode cX_begin 96 = .ok (.iconst 1, 1) := by decide +kernel
theorem dX_begin_97 : decode cX_begin 97 = .ok (.goto 4, 3) := by decide +kernel
theorem dX_begin_100 : decode cX_begin 100 = .ok (.iconst 0, 1) := by decide +kernel
theorem dX_begin_101 : decode cX_begin 101 = .ok (.iconst 1, 1) := by decide +kernel
theorem dX_begin_102 : decode cX_begin 102 = .ok (.invokevirtual 151, 3) := by decide +kernel
theorem dX_begin_105 : decode cX_begin 105 = .ok (.ifCond .ne 22, 3) := by decide +kernel
theorem dX_begin_108 : decode cX_begin 108 = .ok (.aload_n 0, 1) := by decide +kernel
theorem dX_begin_109 : decode cX_begin 109 = .ok (.iload_n 1, 1) := by decide +kernel
theorem dX_begin_110 : decode cX_begin 110 = .ok (.iload_n 2, 1) := by decide +kernel
theorem dX_begin_111 : decode cX_begin 111 = .ok (.iload_n 3, 1) := by decide +kernel
theorem dX_begin_112 : decode cX_begin 112 = .ok (.iload 4, 2) := by decide +kernel
theorem dX_begin_114 : decode cX_begin 114 = .ok (.iload 5, 2) := by decide +kernel
theorem dX_begin_116 : decode cX_begin 116 = .ok (.iload 6, 2) := by decide +kernel
theorem dX_begin_118 : decode cX_begin 118 = .ok (.iload 7, 2) := by decide +kernel
theorem dX_begin_120 : decode cX_begin 120 = .ok (.iload 8, 2) := by decide +kernel
theorem dX_begin_122 : decode cX_begin 122 = .ok (.iload 9, 2) := by decide +kernel
theorem dX_begin_124 : decode cX_begin 124 = .ok (.invokevirtual 46, 3) := by decide +kernel
theorem dX_begin_127 : decode cX_begin 127 = .ok (.return_, 1) := by decide +kernel
theorem dX_level_0 : decode cX_level 0 = .ok (.aload_n 0, 1) := by decide +kernel
theorem dX_level_1 : decode cX_level 1 = .ok (.iconst 0, 1) := by decide +kernel
theorem dX_level_2 : decode cX_level 2 = .ok (.putfield 50, 3) := by decide +kernel
theorem dX_level_5 : decode cX_level 5 = .ok (.aload_n 0, 1) := by decide +kernel
theorem dX_level_6 : decode cX_level 6 = .ok (.iload_n 1, 1) := by decide +kernel
theorem dX_level_7 : decode cX_level 7 = .ok (.putfield 155, 3) := by decide +kernel
theorem dX_level_10 : decode cX_level 10 = .ok (.aload_n 0, 1) := by decide +kernel
theorem dX_level_11 : decode cX_level 11 = .ok (.iconst 1, 1) := by decide +kernel
theorem dX_level_12 : decode cX_level 12 = .ok (.putfield 115, 3) := by decide +kernel
theorem dX_level_15 : decode cX_level 15 = .ok (.return_, 1) := by decide +kernel
theorem dX_steam_0 : decode cX_steam 0 = .ok (.aload_n 0, 1) := by decide +kernel
theorem dX_steam_1 : decode cX_steam 1 = .ok (.iconst 0, 1) := by decide +kernel
theorem dX_steam_2 : decode cX_steam 2 = .ok (.putfield 50, 3) := by decide +kernel
theorem dX_steam_5 : decode cX_steam 5 = .ok (.aload_n 0, 1) := by decide +kernel
theorem dX_steam_6 : decode cX_steam 6 = .ok (.iload_n 1, 1) := by decide +kernel
theorem dX_steam_7 : decode cX_steam 7 = .ok (.putfield 158, 3) := by decide +kernel
theorem dX_steam_10 : decode cX_steam 10 = .ok (.aload_n 0, 1) := by decide +kernel
theorem dX_steam_11 : decode cX_steam 11 = .ok (.iconst 1, 1) := by decide +kernel
theorem dX_steam_12 : decode cX_steam 12 = .ok (.putfield 118, 3) := by decide +kernel
theorem dX_steam_15 : decode cX_steam 15 = .ok (.return_, 1) := by decide +kernel
theorem dX_pump_0 : decode cX_pump 0 = .ok (.aload_n 0, 1) := by decide +kernel
theorem dX_pump_1 : decode cX_pump 1 = .ok (.iconst 0, 1) := by decide +kernel
theorem dX_pump_2 : decode cX_pump 2 = .ok (.putfield 50, 3) := by decide +kernel
theorem dX_pump_5 : decode cX_pump 5 = .ok (.aload_n 0, 1) := by decide +kernel
theorem dX_pump_6 : decode cX_pump 6 = .ok (.iload_n 1, 1) := by decide +kernel
theorem dX_pump_7 : decode cX_pump 7 = .ok (.iconst 0, 1) := by decide +kernel
theorem dX_pump_8 : decode cX_pump 8 = .ok (.iconst 3, 1) := by decide +kernel
theorem dX_pump_9 : decode cX_pump 9 = .ok (.invokestatic 147, 3) := by decide +kernel
theorem dX_pump_12 : decode cX_pump 12 = .ok (.ifCond .ne 7, 3) := by decide +kernel
theorem dX_pump_15 : decode cX_pump 15 = .ok (.iconst 1, 1) := by decide +kernel
theorem dX_pump_16 : decode cX_pump 16 = .ok (.goto 4, 3) := by decide +kernel
theorem dX_pump_19 : decode cX_pump 19 = .ok (.iconst 0, 1) := by decide +kernel
theorem dX_pump_20 : decode cX_pump 20 = .ok (.iconst 1, 1) := by decide +kernel
theorem dX_pump_21 : decode cX_pump 21 = .ok (.invokevirtual 151, 3) := by decide +kernel
theorem dX_pump_24 : decode cX_pump 24 = .ok (.ifCond .eq 4, 3) := by decide +kernel
theorem dX_pump_27 : decode cX_pump 27 = .ok (.return_, 1) := by decide +kernel
theorem dX_pump_28 : decode cX_pump 28 = .ok (.aload_n 0, 1) := by decide +kernel
theorem dX_pump_29 : decode cX_pump 29 = .ok (.getfield 28, 3) := by decide +kernel
theorem dX_pump_32 : decode cX_pump 32 = .ok (.iload_n 1, 1) := by decide +kernel
theorem dX_pump_33 : decode cX_pump 33 = .ok (.iconst 1, 1) := by decide +kernel
theorem dX_pump_34 : decode cX_pump 34 = .ok (.bastore, 1) := by decide +kernel
theorem dX_pump_35 : decode cX_pump 35 = .ok (.aload_n 0, 1) := by decide +kernel
theorem dX_pump_36 : decode cX_pump 36 = .ok (.getfield 31, 3) := by decide +kernel
theorem dX_pump_39 : decode cX_pump 39 = .ok (.iload_n 1, 1) := by decide +kernel
theorem dX_pump_40 : decode cX_pump 40 = .ok (.iload_n 2, 1) := by decide +kernel
theorem dX_pump_41 : decode cX_pump 41 = .ok (.bastore, 1) := by decide +kernel
theorem dX_pump_42 : decode cX_pump 42 = .ok (.aload_n 0, 1) := by decide +kernel
theorem dX_pump_43 : decode cX_pump 43 = .ok (.getfield 34, 3) := by decide +kernel
theorem dX_pump_46 : decode cX_pump 46 = .ok (.iload_n 1, 1) := by decide +kernel
theorem dX_pump_47 : decode cX_pump 47 = .ok (.iload_n 3, 1) := by decide +kernel
theorem dX_pump_48 : decode cX_pump 48 = .ok (.bastore, 1) := by decide +kernel
theorem dX_pump_49 : decode cX_pump 49 = .ok (.return_, 1) := by decide +kernel
theorem dX_say_0 : decode cX_say 0 = .ok (.aload_n 0, 1) := by decide +kernel
theorem dX_say_1 : decode cX_say 1 = .ok (.iconst 0, 1) := by decide +kernel
theorem dX_say_2 : decode cX_say 2 = .ok (.putfield 50, 3) := by decide +kernel
theorem dX_say_5 : decode cX_say 5 = .ok (.aload_n 0, 1) := by decide +kernel
theorem dX_say_6 : decode cX_say 6 = .ok (.iload_n 1, 1) := by decide +kernel
theorem dX_say_7 : decode cX_say 7 = .ok (.iconst 0, 1) := by decide +kernel
theorem dX_say_8 : decode cX_say 8 = .ok (.iconst 2, 1) := by decide +kernel
theorem dX_say_9 : decode cX_say 9 = .ok (.invokestatic 147, 3) := by decide +kernel
theorem dX_say_12 : decode cX_say 12 = .ok (.ifCond .ne 7, 3) := by decide +kernel
theorem dX_say_15 : decode cX_say 15 = .ok (.iconst 1, 1) := by decide +kernel
theorem dX_say_16 : decode cX_say 16 = .ok (.goto 4, 3) := by decide +kernel
theorem dX_say_19 : decode cX_say 19 = .ok (.iconst 0, 1) := by decide +kernel
theorem dX_say_20 : decode cX_say 20 = .ok (.iconst 1, 1) := by decide +kernel
theorem dX_say_21 : decode cX_say 21 = .ok (.invokevirtual 151, 3) := by decide +kernel
theorem dX_say_24 : decode cX_say 24 = .ok (.ifCond .eq 4, 3) := by decide +kernel
theorem dX_say_27 : decode cX_say 27 = .ok (.return_, 1) := by decide +kernel
theorem dX_say_28 : decode cX_say 28 = .ok (.iload_n 1, 1) := by decide +kernel
theorem dX_say_29 : decode cX_say 29 = .ok (.ifCond .ne 11, 3) := by decide +kernel
theorem dX_say_32 : decode cX_say 32 = .ok (.aload_n 0, 1) := by decide +kernel
theorem dX_say_33 : decode cX_say 33 = .ok (.iconst 1, 1) := by decide +kernel
theorem dX_say_34 : decode cX_say 34 = .ok (.putfield 121, 3) := by decide +kernel
theorem dX_say_37 : decode cX_say 37 = .ok (.goto 21, 3) := by decide +kernel
theorem dX_say_40 : decode cX_say 40 = .ok (.iload_n 1, 1) := by decide +kernel
theorem dX_say_41 : decode cX_say 41 = .ok (.iconst 1, 1) := by decide +kernel
theorem dX_say_42 : decode cX_say 42 = .ok (.if_icmp .ne 11, 3) := by decide +kernel
theorem dX_say_45 : decode cX_say 45 = .ok (.aload_n 0, 1) := by decide +kernel
theorem dX_say_46 : decode cX_say 46 = .ok (.iconst 1, 1) := by decide +kernel
theorem dX_say_47 : decode cX_say 47 = .ok (.putfield 124, 3) := by decide +kernel
theorem dX_say_50 : decode cX_say 50 = .ok (.goto 8, 3) := by decide +kernel
theorem dX_say_53 : decode cX_say 53 = .ok (.aload_n 0, 1) := by decide +kernel
theorem dX_say_54 : decode cX_say 54 = .ok (.iconst 1, 1) := by decide +kernel
theorem dX_say_55 : decode cX_say 55 = .ok (.putfield 127, 3) := by decide +kernel
theorem dX_say_58 : decode cX_say 58 = .ok (.return_, 1) := by decide +kernel
theorem dX_unit_0 : decode cX_unit 0 = .ok (.aload_n 0, 1) := by decide +kernel
theorem dX_unit_1 : decode cX_unit 1 = .ok (.iconst 0, 1) := by decide +kernel
theorem dX_unit_2 : decode cX_unit 2 = .ok (.putfield 50, 3) := by decide +kernel
theorem dX_unit_5 : decode cX_unit 5 = .ok (.aload_n 0, 1) := by decide +kernel
theorem dX_unit_6 : decode cX_unit 6 = .ok (.iload_n 1, 1) := by decide +kernel
theorem dX_unit_7 : decode cX_unit 7 = .ok (.iconst 0, 1) := by decide +kernel
theorem dX_unit_8 : decode cX_unit 8 = .ok (.bipush 9, 2) := by decide +kernel
theorem dX_unit_10 : decode cX_unit 10 = .ok (.invokestatic 147, 3) := by decide +kernel
theorem dX_unit_13 : decode cX_unit 13 = .ok (.ifCond .ne 7, 3) := by decide +kernel
theorem dX_unit_16 : decode cX_unit 16 = .ok (.iconst 1, 1) := by decide +kernel
theorem dX_unit_17 : decode cX_unit 17 = .ok (.goto 4, 3) := by decide +kernel
theorem dX_unit_20 : decode cX_unit 20 = .ok (.iconst 0, 1) := by decide +kernel
theorem dX_unit_21 : decode cX_unit 21 = .ok (.iconst 1, 1) := by decide +kernel
theorem dX_unit_22 : decode cX_unit 22 = .ok (.invokevirtual 151, 3) := by decide +kernel
theorem dX_unit_25 : decode cX_unit 25 = .ok (.ifCond .eq 4, 3) := by decide +kernel
theorem dX_unit_28 : decode cX_unit 28 = .ok (.return_, 1) := by decide +kernel
theorem dX_unit_29 : decode cX_unit 29 = .ok (.iload_n 2, 1) := by decide +kernel
theorem dX_unit_30 : decode cX_unit 30 = .ok (.ifCond .eq 13, 3) := by decide +kernel
theorem dX_unit_33 : decode cX_unit 33 = .ok (.aload_n 0, 1) := by decide +kernel
theorem dX_unit_34 : decode cX_unit 34 = .ok (.getfield 37, 3) := by decide +kernel
theorem dX_unit_37 : decode cX_unit 37 = .ok (.iload_n 1, 1) := by decide +kernel
theorem dX_unit_38 : decode cX_unit 38 = .ok (.iconst 1, 1) := by decide +kernel
theorem dX_unit_39 : decode cX_unit 39 = .ok (.bastore, 1) := by decide +kernel
theorem dX_unit_40 : decode cX_unit 40 = .ok (.goto 10, 3) := by decide +kernel
theorem dX_unit_43 : decode cX_unit 43 = .ok (.aload_n 0, 1) := by decide +kernel
theorem dX_unit_44 : decode cX_unit 44 = .ok (.getfield 40, 3) := by decide +kernel
theorem dX_unit_47 : decode cX_unit 47 = .ok (.iload_n 1, 1) := by decide +kernel
theorem dX_unit_48 : decode cX_unit 48 = .ok (.iconst 1, 1) := by decide +kernel
theorem dX_unit_49 : decode cX_unit 49 = .ok (.bastore, 1) := by decide +kernel
theorem dX_unit_50 : decode cX_unit 50 = .ok (.return_, 1) := by decide +kernel
theorem dX_cycle_0 : decode cX_cycle 0 = .ok (.aload_n 0, 1) := by decide +kernel
theorem dX_cycle_1 : decode cX_cycle 1 = .ok (.iconst 0, 1) := by decide +kernel
theorem dX_cycle_2 : decode cX_cycle 2 = .ok (.putfield 50, 3) := by decide +kernel
theorem dX_cycle_5 : decode cX_cycle 5 = .ok (.aload_n 0, 1) := by decide +kernel
theorem dX_cycle_6 : decode cX_cycle 6 = .ok (.aload_n 0, 1) := by decide +kernel
theorem dX_cycle_7 : decode cX_cycle 7 = .ok (.getfield 84, 3) := by decide +kernel
theorem dX_cycle_10 : decode cX_cycle 10 = .ok (.ldc 145, 2) := by decide +kernel
theorem dX_cycle_12 : decode cX_cycle 12 = .ok (.if_icmp .ne 7, 3) := by decide +kernel
theorem dX_cycle_15 : decode cX_cycle 15 = .ok (.iconst 1, 1) := by decide +kernel
theorem dX_cycle_16 : decode cX_cycle 16 = .ok (.goto 4, 3) := by decide +kernel
theorem dX_cycle_19 : decode cX_cycle 19 = .ok (.iconst 0, 1) := by decide +kernel
theorem dX_cycle_20 : decode cX_cycle 20 = .ok (.iconst 1, 1) := by decide +kernel
theorem dX_cycle_21 : decode cX_cycle 21 = .ok (.invokevirtual 151, 3) := by decide +kernel
theorem dX_cycle_24 : decode cX_cycle 24 = .ok (.ifCond .eq 5, 3) := by decide +kernel
theorem dX_cycle_27 : decode cX_cycle 27 = .ok (.iconst 0, 1) := by decide +kernel
theorem dX_cycle_28 : decode cX_cycle 28 = .ok (.ireturn, 1) := by decide +kernel
theorem dX_cycle_29 : decode cX_cycle 29 = .ok (.aload_n 0, 1) := by decide +kernel
theorem dX_cycle_30 : decode cX_cycle 30 = .ok (.dup, 1) := by decide +kernel
theorem dX_cycle_31 : decode cX_cycle 31 = .ok (.getfield 84, 3) := by decide +kernel
theorem dX_cycle_34 : decode cX_cycle 34 = .ok (.iconst 1, 1) := by decide +kernel
theorem dX_cycle_35 : decode cX_cycle 35 = .ok (.iadd, 1) := by decide +kernel
theorem dX_cycle_36 : decode cX_cycle 36 = .ok (.putfield 84, 3) := by decide +kernel
theorem dX_cycle_39 : decode cX_cycle 39 = .ok (.aload_n 0, 1) := by decide +kernel
theorem dX_cycle_40 : decode cX_cycle 40 = .ok (.invokevirtual 112, 3) := by decide +kernel
theorem dX_cycle_43 : decode cX_cycle 43 = .ok (.aload_n 0, 1) := by decide +kernel
theorem dX_cycle_44 : decode cX_cycle 44 = .ok (.getfield 81, 3) := by decide +kernel
theorem dX_cycle_47 : decode cX_cycle 47 = .ok (.iconst 4, 1) := by decide +kernel
theorem dX_cycle_48 : decode cX_cycle 48 = .ok (.if_icmp .eq 17, 3) := by decide +kernel
theorem dX_cycle_51 : decode cX_cycle 51 = .ok (.aload_n 0, 1) := by decide +kernel
theorem dX_cycle_52 : decode cX_cycle 52 = .ok (.invokevirtual 161, 3) := by decide +kernel
theorem dX_cycle_55 : decode cX_cycle 55 = .ok (.istore_n 1, 1) := by decide +kernel
theorem dX_cycle_56 : decode cX_cycle 56 = .ok (.iload_n 1, 1) := by decide +kernel
theorem dX_cycle_57 : decode cX_cycle 57 = .ok (.ifCond .ne 8, 3) := by decide +kernel
theorem dX_cycle_60 : decode cX_cycle 60 = .ok (.aload_n 0, 1) := by decide +kernel
theorem dX_cycle_61 : decode cX_cycle 61 = .ok (.iconst 4, 1) := by decide +kernel
theorem dX_cycle_62 : decode cX_cycle 62 = .ok (.putfield 81, 3) := by decide +kernel
theorem dX_cycle_65 : decode cX_cycle 65 = .ok (.aload_n 0, 1) := by decide +kernel
theorem dX_cycle_66 : decode cX_cycle 66 = .ok (.invokevirtual 109, 3) := by decide +kernel
theorem dX_cycle_69 : decode cX_cycle 69 = .ok (.aload_n 0, 1) := by decide +kernel
theorem dX_cycle_70 : decode cX_cycle 70 = .ok (.getfield 81, 3) := by decide +kernel
theorem dX_cycle_73 : decode cX_cycle 73 = .ok (.ireturn, 1) := by decide +kernel
theorem dX_turn_0 : decode cX_turn 0 = .ok (.aload_n 0, 1) := by decide +kernel
theorem dX_turn_1 : decode cX_turn 1 = .ok (.aload_n 0, 1) := by decide +kernel
theorem dX_turn_2 : decode cX_turn 2 = .ok (.getfield 127, 3) := by decide +kernel
theorem dX_turn_5 : decode cX_turn 5 = .ok (.ifCond .eq 12, 3) := by decide +kernel
theorem dX_turn_8 : decode cX_turn 8 = .ok (.aload_n 0, 1) := by decide +kernel
theorem dX_turn_9 : decode cX_turn 9 = .ok (.getfield 99, 3) := by decide +kernel
theorem dX_turn_12 : decode cX_turn 12 = .ok (.iconst 1, 1) := by decide +kernel
theorem dX_turn_13 : decode cX_turn 13 = .ok (.iadd, 1) := by decide +kernel
theorem dX_turn_14 : decode cX_turn 14 = .ok (.goto 4, 3) := by decide +kernel
theorem dX_turn_17 : decode cX_turn 17 = .ok (.iconst 0, 1) := by decide +kernel
theorem dX_turn_18 : decode cX_turn 18 = .ok (.putfield 99, 3) := by decide +kernel
theorem dX_turn_21 : decode cX_turn 21 = .ok (.aload_n 0, 1) := by decide +kernel
theorem dX_turn_22 : decode cX_turn 22 = .ok (.getfield 99, 3) := by decide +kernel
theorem dX_turn_25 : decode cX_turn 25 = .ok (.iconst 3, 1) := by decide +kernel
theorem dX_turn_26 : decode cX_turn 26 = .ok (.if_icmp .lt 5, 3) := by decide +kernel
theorem dX_turn_29 : decode cX_turn 29 = .ok (.iconst 0, 1) := by decide +kernel
theorem dX_turn_30 : decode cX_turn 30 = .ok (.ireturn, 1) := by decide +kernel
theorem dX_turn_31 : decode cX_turn 31 = .ok (.aload_n 0, 1) := by decide +kernel
theorem dX_turn_32 : decode cX_turn 32 = .ok (.getfield 115, 3) := by decide +kernel
theorem dX_turn_35 : decode cX_turn 35 = .ok (.ifCond .eq 10, 3) := by decide +kernel
theorem dX_turn_38 : decode cX_turn 38 = .ok (.aload_n 0, 1) := by decide +kernel
theorem dX_turn_39 : decode cX_turn 39 = .ok (.getfield 118, 3) := by decide +kernel
theorem dX_turn_42 : decode cX_turn 42 = .ok (.ifCond .ne 5, 3) := by decide +kernel
theorem dX_turn_45 : decode cX_turn 45 = .ok (.iconst 0, 1) := by decide +kernel
theorem dX_turn_46 : decode cX_turn 46 = .ok (.ireturn, 1) := by decide +kernel
theorem dX_turn_47 : decode cX_turn 47 = .ok (.iconst 0, 1) := by decide +kernel
theorem dX_turn_48 : decode cX_turn 48 = .ok (.istore_n 1, 1) := by decide +kernel
theorem dX_turn_49 : decode cX_turn 49 = .ok (.iload_n 1, 1) := by decide +kernel
theorem dX_turn_50 : decode cX_turn 50 = .ok (.iconst 4, 1) := by decide +kernel
theorem dX_turn_51 : decode cX_turn 51 = .ok (.if_icmp .ge 20, 3) := by decide +kernel
theorem dX_turn_54 : decode cX_turn 54 = .ok (.aload_n 0, 1) := by decide +kernel
theorem dX_turn_55 : decode cX_turn 55 = .ok (.getfield 28, 3) := by decide +kernel
theorem dX_turn_58 : decode cX_turn 58 = .ok (.iload_n 1, 1) := by decide +kernel
theorem dX_turn_59 : decode cX_turn 59 = .ok (.baload, 1) := by decide +kernel
theorem dX_turn_60 : decode cX_turn 60 = .ok (.ifCond .ne 5, 3) := by decide +kernel
theorem dX_turn_63 : decode cX_turn 63 = .ok (.iconst 0, 1) := by decide +kernel
theorem dX_turn_64 : decode cX_turn 64 = .ok (.ireturn, 1) := by decide +kernel
theorem dX_turn_65 : decode cX_turn 65 = .ok (.iinc 1 1, 3) := by decide +kernel
theorem dX_turn_68 : decode cX_turn 68 = .ok (.goto (-19), 3) := by decide +kernel
theorem dX_turn_71 : decode cX_turn 71 = .ok (.iconst 0, 1) := by decide +kernel
theorem dX_turn_72 : decode cX_turn 72 = .ok (.istore_n 1, 1) := by decide +kernel
theorem dX_turn_73 : decode cX_turn 73 = .ok (.iload_n 1, 1) := by decide +kernel
theorem dX_turn_74 : decode cX_turn 74 = .ok (.bipush 10, 2) := by decide +kernel
theorem dX_turn_76 : decode cX_turn 76 = .ok (.if_icmp .ge 21, 3) := by decide +kernel
theorem dX_turn_79 : decode cX_turn 79 = .ok (.aload_n 0, 1) := by decide +kernel
theorem dX_turn_80 : decode cX_turn 80 = .ok (.getfield 16, 3) := by decide +kernel
theorem dX_turn_83 : decode cX_turn 83 = .ok (.iload_n 1, 1) := by decide +kernel
theorem dX_turn_84 : decode cX_turn 84 = .ok (.aload_n 0, 1) := by decide +kernel
theorem dX_turn_85 : decode cX_turn 85 = .ok (.getfield 7, 3) := by decide +kernel
theorem dX_turn_88 : decode cX_turn 88 = .ok (.iload_n 1, 1) := by decide +kernel
theorem dX_turn_89 : decode cX_turn 89 = .ok (.baload, 1) := by decide +kernel
theorem dX_turn_90 : decode cX_turn 90 = .ok (.bastore, 1) := by decide +kernel
theorem dX_turn_91 : decode cX_turn 91 = .ok (.iinc 1 1, 3) := by decide +kernel
theorem dX_turn_94 : decode cX_turn 94 = .ok (.goto (-21), 3) := by decide +kernel
theorem dX_turn_97 : decode cX_turn 97 = .ok (.aload_n 0, 1) := by decide +kernel
theorem dX_turn_98 : decode cX_turn 98 = .ok (.invokevirtual 165, 3) := by decide +kernel
theorem dX_turn_101 : decode cX_turn 101 = .ok (.ifCond .ne 5, 3) := by decide +kernel
theorem dX_turn_104 : decode cX_turn 104 = .ok (.iconst 0, 1) := by decide +kernel
theorem dX_turn_105 : decode cX_turn 105 = .ok (.ireturn, 1) := by decide +kernel
theorem dX_turn_106 : decode cX_turn 106 = .ok (.aload_n 0, 1) := by decide +kernel
theorem dX_turn_107 : decode cX_turn 107 = .ok (.getfield 93, 3) := by decide +kernel
theorem dX_turn_110 : decode cX_turn 110 = .ok (.aload_n 0, 1) := by decide +kernel
theorem dX_turn_111 : decode cX_turn 111 = .ok (.getfield 75, 3) := by decide +kernel
theorem dX_turn_114 : decode cX_turn 114 = .ok (.isub, 1) := by decide +kernel
theorem dX_turn_115 : decode cX_turn 115 = .ok (.ifCond .ge 7, 3) := by decide +kernel
theorem dX_turn_118 : decode cX_turn 118 = .ok (.iconst 0, 1) := by decide +kernel
theorem dX_turn_119 : decode cX_turn 119 = .ok (.goto 12, 3) := by decide +kernel
theorem dX_turn_122 : decode cX_turn 122 = .ok (.aload_n 0, 1) := by decide +kernel
theorem dX_turn_123 : decode cX_turn 123 = .ok (.getfield 93, 3) := by decide +kernel
theorem dX_turn_126 : decode cX_turn 126 = .ok (.aload_n 0, 1) := by decide +kernel
theorem dX_turn_127 : decode cX_turn 127 = .ok (.getfield 75, 3) := by decide +kernel
theorem dX_turn_130 : decode cX_turn 130 = .ok (.isub, 1) := by decide +kernel
theorem dX_turn_131 : decode cX_turn 131 = .ok (.istore_n 1, 1) := by decide +kernel
theorem dX_turn_132 : decode cX_turn 132 = .ok (.aload_n 0, 1) := by decide +kernel
