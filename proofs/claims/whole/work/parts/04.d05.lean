theorem dX_units_112 : decode cX_units 112 = .ok (.getfield 13, 3) := by decide +kernel
theorem dX_units_115 : decode cX_units 115 = .ok (.iload_n 1, 1) := by decide +kernel
theorem dX_units_116 : decode cX_units 116 = .ok (.iconst 1, 1) := by decide +kernel
theorem dX_units_117 : decode cX_units 117 = .ok (.bastore, 1) := by decide +kernel
theorem dX_units_118 : decode cX_units 118 = .ok (.goto 12, 3) := by decide +kernel
theorem dX_units_121 : decode cX_units 121 = .ok (.aload_n 0, 1) := by decide +kernel
theorem dX_units_122 : decode cX_units 122 = .ok (.getfield 81, 3) := by decide +kernel
theorem dX_units_125 : decode cX_units 125 = .ok (.ifCond .eq 5, 3) := by decide +kernel
theorem dX_units_128 : decode cX_units 128 = .ok (.iconst 0, 1) := by decide +kernel
theorem dX_units_129 : decode cX_units 129 = .ok (.ireturn, 1) := by decide +kernel
theorem dX_units_130 : decode cX_units 130 = .ok (.iinc 1 1, 3) := by decide +kernel
theorem dX_units_133 : decode cX_units 133 = .ok (.goto (-58), 3) := by decide +kernel
theorem dX_units_136 : decode cX_units 136 = .ok (.iconst 1, 1) := by decide +kernel
theorem dX_units_137 : decode cX_units 137 = .ok (.ireturn, 1) := by decide +kernel
theorem dX_some_0 : decode cX_some 0 = .ok (.iload_n 1, 1) := by decide +kernel
theorem dX_some_1 : decode cX_some 1 = .ok (.istore_n 3, 1) := by decide +kernel
theorem dX_some_2 : decode cX_some 2 = .ok (.iload_n 3, 1) := by decide +kernel
theorem dX_some_3 : decode cX_some 3 = .ok (.iload_n 2, 1) := by decide +kernel
theorem dX_some_4 : decode cX_some 4 = .ok (.if_icmp .gt 20, 3) := by decide +kernel
theorem dX_some_7 : decode cX_some 7 = .ok (.aload_n 0, 1) := by decide +kernel
theorem dX_some_8 : decode cX_some 8 = .ok (.getfield 7, 3) := by decide +kernel
theorem dX_some_11 : decode cX_some 11 = .ok (.iload_n 3, 1) := by decide +kernel
theorem dX_some_12 : decode cX_some 12 = .ok (.baload, 1) := by decide +kernel
theorem dX_some_13 : decode cX_some 13 = .ok (.ifCond .eq 5, 3) := by decide +kernel
theorem dX_some_16 : decode cX_some 16 = .ok (.iconst 1, 1) := by decide +kernel
theorem dX_some_17 : decode cX_some 17 = .ok (.ireturn, 1) := by decide +kernel
theorem dX_some_18 : decode cX_some 18 = .ok (.iinc 3 1, 3) := by decide +kernel
theorem dX_some_21 : decode cX_some 21 = .ok (.goto (-19), 3) := by decide +kernel
theorem dX_some_24 : decode cX_some 24 = .ok (.iconst 0, 1) := by decide +kernel
theorem dX_some_25 : decode cX_some 25 = .ok (.ireturn, 1) := by decide +kernel
theorem dX_first_0 : decode cX_first 0 = .ok (.aload_n 0, 1) := by decide +kernel
theorem dX_first_1 : decode cX_first 1 = .ok (.getfield 7, 3) := by decide +kernel
theorem dX_first_4 : decode cX_first 4 = .ok (.iconst 0, 1) := by decide +kernel
theorem dX_first_5 : decode cX_first 5 = .ok (.baload, 1) := by decide +kernel
theorem dX_first_6 : decode cX_first 6 = .ok (.ifCond .ne 12, 3) := by decide +kernel
theorem dX_first_9 : decode cX_first 9 = .ok (.aload_n 0, 1) := by decide +kernel
theorem dX_first_10 : decode cX_first 10 = .ok (.getfield 7, 3) := by decide +kernel
theorem dX_first_13 : decode cX_first 13 = .ok (.iconst 1, 1) := by decide +kernel
theorem dX_first_14 : decode cX_first 14 = .ok (.baload, 1) := by decide +kernel
theorem dX_first_15 : decode cX_first 15 = .ok (.ifCond .eq 5, 3) := by decide +kernel
theorem dX_first_18 : decode cX_first 18 = .ok (.iconst 0, 1) := by decide +kernel
theorem dX_first_19 : decode cX_first 19 = .ok (.ireturn, 1) := by decide +kernel
theorem dX_first_20 : decode cX_first 20 = .ok (.aload_n 0, 1) := by decide +kernel
theorem dX_first_21 : decode cX_first 21 = .ok (.getfield 106, 3) := by decide +kernel
theorem dX_first_24 : decode cX_first 24 = .ok (.ifCond .ne 16, 3) := by decide +kernel
theorem dX_first_27 : decode cX_first 27 = .ok (.aload_n 0, 1) := by decide +kernel
theorem dX_first_28 : decode cX_first 28 = .ok (.getfield 124, 3) := by decide +kernel
theorem dX_first_31 : decode cX_first 31 = .ok (.ifCond .ne 7, 3) := by decide +kernel
theorem dX_first_34 : decode cX_first 34 = .ok (.iconst 1, 1) := by decide +kernel
theorem dX_first_35 : decode cX_first 35 = .ok (.goto 4, 3) := by decide +kernel
theorem dX_first_38 : decode cX_first 38 = .ok (.iconst 0, 1) := by decide +kernel
theorem dX_first_39 : decode cX_first 39 = .ok (.ireturn, 1) := by decide +kernel
theorem dX_first_40 : decode cX_first 40 = .ok (.aload_n 0, 1) := by decide +kernel
theorem dX_first_41 : decode cX_first 41 = .ok (.getfield 158, 3) := by decide +kernel
theorem dX_first_44 : decode cX_first 44 = .ok (.ifCond .eq 5, 3) := by decide +kernel
theorem dX_first_47 : decode cX_first 47 = .ok (.iconst 0, 1) := by decide +kernel
theorem dX_first_48 : decode cX_first 48 = .ok (.ireturn, 1) := by decide +kernel
theorem dX_first_49 : decode cX_first 49 = .ok (.aload_n 0, 1) := by decide +kernel
theorem dX_first_50 : decode cX_first 50 = .ok (.getfield 124, 3) := by decide +kernel
theorem dX_first_53 : decode cX_first 53 = .ok (.ifCond .ne 5, 3) := by decide +kernel
theorem dX_first_56 : decode cX_first 56 = .ok (.iconst 1, 1) := by decide +kernel
theorem dX_first_57 : decode cX_first 57 = .ok (.ireturn, 1) := by decide +kernel
theorem dX_first_58 : decode cX_first 58 = .ok (.aload_n 0, 1) := by decide +kernel
theorem dX_first_59 : decode cX_first 59 = .ok (.getfield 155, 3) := by decide +kernel
theorem dX_first_62 : decode cX_first 62 = .ok (.aload_n 0, 1) := by decide +kernel
theorem dX_first_63 : decode cX_first 63 = .ok (.getfield 60, 3) := by decide +kernel
theorem dX_first_66 : decode cX_first 66 = .ok (.aload_n 0, 1) := by decide +kernel
theorem dX_first_67 : decode cX_first 67 = .ok (.getfield 63, 3) := by decide +kernel
theorem dX_first_70 : decode cX_first 70 = .ok (.invokestatic 147, 3) := by decide +kernel
theorem dX_first_73 : decode cX_first 73 = .ok (.ifCond .ne 5, 3) := by decide +kernel
theorem dX_first_76 : decode cX_first 76 = .ok (.iconst 0, 1) := by decide +kernel
theorem dX_first_77 : decode cX_first 77 = .ok (.ireturn, 1) := by decide +kernel
theorem dX_first_78 : decode cX_first 78 = .ok (.aload_n 0, 1) := by decide +kernel
theorem dX_first_79 : decode cX_first 79 = .ok (.aload_n 0, 1) := by decide +kernel
theorem dX_first_80 : decode cX_first 80 = .ok (.iconst 0, 1) := by decide +kernel
theorem dX_first_81 : decode cX_first 81 = .ok (.bipush 9, 2) := by decide +kernel
theorem dX_first_83 : decode cX_first 83 = .ok (.invokevirtual 181, 3) := by decide +kernel
theorem dX_first_86 : decode cX_first 86 = .ok (.ifCond .eq 7, 3) := by decide +kernel
theorem dX_first_89 : decode cX_first 89 = .ok (.iconst 2, 1) := by decide +kernel
theorem dX_first_90 : decode cX_first 90 = .ok (.goto 4, 3) := by decide +kernel
theorem dX_first_93 : decode cX_first 93 = .ok (.iconst 1, 1) := by decide +kernel
theorem dX_first_94 : decode cX_first 94 = .ok (.putfield 81, 3) := by decide +kernel
theorem dX_first_97 : decode cX_first 97 = .ok (.iconst 1, 1) := by decide +kernel
theorem dX_first_98 : decode cX_first 98 = .ok (.ireturn, 1) := by decide +kernel
theorem dX_others_0 : decode cX_others 0 = .ok (.aload_n 0, 1) := by decide +kernel
theorem dX_others_1 : decode cX_others 1 = .ok (.getfield 87, 3) := by decide +kernel
theorem dX_others_4 : decode cX_others 4 = .ok (.aload_n 0, 1) := by decide +kernel
theorem dX_others_5 : decode cX_others 5 = .ok (.getfield 57, 3) := by decide +kernel
theorem dX_others_8 : decode cX_others 8 = .ok (.if_icmp .le 14, 3) := by decide +kernel
theorem dX_others_11 : decode cX_others 11 = .ok (.aload_n 0, 1) := by decide +kernel
theorem dX_others_12 : decode cX_others 12 = .ok (.getfield 90, 3) := by decide +kernel
theorem dX_others_15 : decode cX_others 15 = .ok (.aload_n 0, 1) := by decide +kernel
theorem dX_others_16 : decode cX_others 16 = .ok (.getfield 66, 3) := by decide +kernel
theorem dX_others_19 : decode cX_others 19 = .ok (.if_icmp .lt 5, 3) := by decide +kernel
theorem dX_others_22 : decode cX_others 22 = .ok (.iconst 0, 1) := by decide +kernel
theorem dX_others_23 : decode cX_others 23 = .ok (.ireturn, 1) := by decide +kernel
theorem dX_others_24 : decode cX_others 24 = .ok (.aload_n 0, 1) := by decide +kernel
theorem dX_others_25 : decode cX_others 25 = .ok (.getfield 7, 3) := by decide +kernel
theorem dX_others_28 : decode cX_others 28 = .ok (.iconst 0, 1) := by decide +kernel
theorem dX_others_29 : decode cX_others 29 = .ok (.baload, 1) := by decide +kernel
theorem dX_others_30 : decode cX_others 30 = .ok (.ifCond .eq 33, 3) := by decide +kernel
theorem dX_others_33 : decode cX_others 33 = .ok (.aload_n 0, 1) := by decide +kernel
theorem dX_others_34 : decode cX_others 34 = .ok (.getfield 7, 3) := by decide +kernel
theorem dX_others_37 : decode cX_others 37 = .ok (.iconst 1, 1) := by decide +kernel
theorem dX_others_38 : decode cX_others 38 = .ok (.baload, 1) := by decide +kernel
theorem dX_others_39 : decode cX_others 39 = .ok (.ifCond .ne 14, 3) := by decide +kernel
theorem dX_others_42 : decode cX_others 42 = .ok (.aload_n 0, 1) := by decide +kernel
theorem dX_others_43 : decode cX_others 43 = .ok (.bipush 6, 2) := by decide +kernel
theorem dX_others_45 : decode cX_others 45 = .ok (.bipush 9, 2) := by decide +kernel
theorem dX_others_47 : decode cX_others 47 = .ok (.invokevirtual 181, 3) := by decide +kernel
theorem dX_others_50 : decode cX_others 50 = .ok (.ifCond .eq 5, 3) := by decide +kernel
theorem dX_others_53 : decode cX_others 53 = .ok (.iconst 0, 1) := by decide +kernel
theorem dX_others_54 : decode cX_others 54 = .ok (.ireturn, 1) := by decide +kernel
theorem dX_others_55 : decode cX_others 55 = .ok (.aload_n 0, 1) := by decide +kernel
theorem dX_others_56 : decode cX_others 56 = .ok (.iconst 3, 1) := by decide +kernel
theorem dX_others_57 : decode cX_others 57 = .ok (.putfield 81, 3) := by decide +kernel
theorem dX_others_60 : decode cX_others 60 = .ok (.goto 22, 3) := by decide +kernel
theorem dX_others_63 : decode cX_others 63 = .ok (.aload_n 0, 1) := by decide +kernel
theorem dX_others_64 : decode cX_others 64 = .ok (.aload_n 0, 1) := by decide +kernel
theorem dX_others_65 : decode cX_others 65 = .ok (.iconst 0, 1) := by decide +kernel
theorem dX_others_66 : decode cX_others 66 = .ok (.bipush 9, 2) := by decide +kernel
theorem dX_others_68 : decode cX_others 68 = .ok (.invokevirtual 181, 3) := by decide +kernel
theorem dX_others_71 : decode cX_others 71 = .ok (.ifCond .eq 7, 3) := by decide +kernel
theorem dX_others_74 : decode cX_others 74 = .ok (.iconst 2, 1) := by decide +kernel
theorem dX_others_75 : decode cX_others 75 = .ok (.goto 4, 3) := by decide +kernel
theorem dX_others_78 : decode cX_others 78 = .ok (.iconst 1, 1) := by decide +kernel
theorem dX_others_79 : decode cX_others 79 = .ok (.putfield 81, 3) := by decide +kernel
theorem dX_others_82 : decode cX_others 82 = .ok (.iconst 1, 1) := by decide +kernel
theorem dX_others_83 : decode cX_others 83 = .ok (.ireturn, 1) := by decide +kernel
theorem dX_command_0 : decode cX_command 0 = .ok (.iconst 0, 1) := by decide +kernel
theorem dX_command_1 : decode cX_command 1 = .ok (.istore_n 1, 1) := by decide +kernel
theorem dX_command_2 : decode cX_command 2 = .ok (.iload_n 1, 1) := by decide +kernel
theorem dX_command_3 : decode cX_command 3 = .ok (.iconst 4, 1) := by decide +kernel
theorem dX_command_4 : decode cX_command 4 = .ok (.if_icmp .ge 21, 3) := by decide +kernel
theorem dX_command_7 : decode cX_command 7 = .ok (.aload_n 0, 1) := by decide +kernel
theorem dX_command_8 : decode cX_command 8 = .ok (.getfield 43, 3) := by decide +kernel
theorem dX_command_11 : decode cX_command 11 = .ok (.iload_n 1, 1) := by decide +kernel
theorem dX_command_12 : decode cX_command 12 = .ok (.aload_n 0, 1) := by decide +kernel
theorem dX_command_13 : decode cX_command 13 = .ok (.getfield 19, 3) := by decide +kernel
theorem dX_command_16 : decode cX_command 16 = .ok (.iload_n 1, 1) := by decide +kernel
theorem dX_command_17 : decode cX_command 17 = .ok (.baload, 1) := by decide +kernel
theorem dX_command_18 : decode cX_command 18 = .ok (.bastore, 1) := by decide +kernel
theorem dX_command_19 : decode cX_command 19 = .ok (.iinc 1 1, 3) := by decide +kernel
theorem dX_command_22 : decode cX_command 22 = .ok (.goto (-20), 3) := by decide +kernel
theorem dX_command_25 : decode cX_command 25 = .ok (.aload_n 0, 1) := by decide +kernel
theorem dX_command_26 : decode cX_command 26 = .ok (.getfield 102, 3) := by decide +kernel
theorem dX_command_29 : decode cX_command 29 = .ok (.istore_n 1, 1) := by decide +kernel
theorem dX_command_30 : decode cX_command 30 = .ok (.aload_n 0, 1) := by decide +kernel
theorem dX_command_31 : decode cX_command 31 = .ok (.getfield 81, 3) := by decide +kernel
theorem dX_command_34 : decode cX_command 34 = .ok (.ifCond .ne 109, 3) := by decide +kernel
theorem dX_command_37 : decode cX_command 37 = .ok (.aload_n 0, 1) := by decide +kernel
theorem dX_command_38 : decode cX_command 38 = .ok (.getfield 106, 3) := by decide +kernel
theorem dX_command_41 : decode cX_command 41 = .ok (.ifCond .eq 233, 3) := by decide +kernel
theorem dX_command_44 : decode cX_command 44 = .ok (.aload_n 0, 1) := by decide +kernel
theorem dX_command_45 : decode cX_command 45 = .ok (.getfield 155, 3) := by decide +kernel
theorem dX_command_48 : decode cX_command 48 = .ok (.aload_n 0, 1) := by decide +kernel
theorem dX_command_49 : decode cX_command 49 = .ok (.getfield 63, 3) := by decide +kernel
theorem dX_command_52 : decode cX_command 52 = .ok (.if_icmp .le 7, 3) := by decide +kernel
theorem dX_command_55 : decode cX_command 55 = .ok (.iconst 1, 1) := by decide +kernel
theorem dX_command_56 : decode cX_command 56 = .ok (.goto 4, 3) := by decide +kernel
theorem dX_command_59 : decode cX_command 59 = .ok (.iconst 0, 1) := by decide +kernel
theorem dX_command_60 : decode cX_command 60 = .ok (.istore_n 1, 1) := by decide +kernel
theorem dX_command_61 : decode cX_command 61 = .ok (.iconst 0, 1) := by decide +kernel
theorem dX_command_62 : decode cX_command 62 = .ok (.istore_n 2, 1) := by decide +kernel
theorem dX_command_63 : decode cX_command 63 = .ok (.iload_n 2, 1) := by decide +kernel
theorem dX_command_64 : decode cX_command 64 = .ok (.iconst 4, 1) := by decide +kernel
theorem dX_command_65 : decode cX_command 65 = .ok (.if_icmp .ge 48, 3) := by decide +kernel
theorem dX_command_68 : decode cX_command 68 = .ok (.aload_n 0, 1) := by decide +kernel
theorem dX_command_69 : decode cX_command 69 = .ok (.getfield 155, 3) := by decide +kernel
theorem dX_command_72 : decode cX_command 72 = .ok (.aload_n 0, 1) := by decide +kernel
theorem dX_command_73 : decode cX_command 73 = .ok (.getfield 60, 3) := by decide +kernel
theorem dX_command_76 : decode cX_command 76 = .ok (.if_icmp .lt 13, 3) := by decide +kernel
theorem dX_command_79 : decode cX_command 79 = .ok (.aload_n 0, 1) := by decide +kernel
theorem dX_command_80 : decode cX_command 80 = .ok (.getfield 43, 3) := by decide +kernel
theorem dX_command_83 : decode cX_command 83 = .ok (.iload_n 2, 1) := by decide +kernel
theorem dX_command_84 : decode cX_command 84 = .ok (.iconst 0, 1) := by decide +kernel
theorem dX_command_85 : decode cX_command 85 = .ok (.bastore, 1) := by decide +kernel
theorem dX_command_86 : decode cX_command 86 = .ok (.goto 21, 3) := by decide +kernel
theorem dX_command_89 : decode cX_command 89 = .ok (.aload_n 0, 1) := by decide +kernel
theorem dX_command_90 : decode cX_command 90 = .ok (.getfield 7, 3) := by decide +kernel
theorem dX_command_93 : decode cX_command 93 = .ok (.iconst 2, 1) := by decide +kernel
theorem dX_command_94 : decode cX_command 94 = .ok (.iload_n 2, 1) := by decide +kernel
theorem dX_command_95 : decode cX_command 95 = .ok (.iadd, 1) := by decide +kernel
theorem dX_command_96 : decode cX_command 96 = .ok (.baload, 1) := by decide +kernel
theorem dX_command_97 : decode cX_command 97 = .ok (.ifCond .ne 10, 3) := by decide +kernel
theorem dX_command_100 : decode cX_command 100 = .ok (.aload_n 0, 1) := by decide +kernel
theorem dX_command_101 : decode cX_command 101 = .ok (.getfield 43, 3) := by decide +kernel
theorem dX_command_104 : decode cX_command 104 = .ok (.iload_n 2, 1) := by decide +kernel
theorem dX_command_105 : decode cX_command 105 = .ok (.iconst 1, 1) := by decide +kernel
theorem dX_command_106 : decode cX_command 106 = .ok (.bastore, 1) := by decide +kernel
theorem dX_command_107 : decode cX_command 107 = .ok (.iinc 2 1, 3) := by decide +kernel
theorem dX_command_110 : decode cX_command 110 = .ok (.goto (-47), 3) := by decide +kernel
theorem dX_command_113 : decode cX_command 113 = .ok (.aload_n 0, 1) := by decide +kernel
theorem dX_command_114 : decode cX_command 114 = .ok (.aload_n 0, 1) := by decide +kernel
theorem dX_command_115 : decode cX_command 115 = .ok (.getfield 155, 3) := by decide +kernel
theorem dX_command_118 : decode cX_command 118 = .ok (.aload_n 0, 1) := by decide +kernel
theorem dX_command_119 : decode cX_command 119 = .ok (.getfield 60, 3) := by decide +kernel
theorem dX_command_122 : decode cX_command 122 = .ok (.aload_n 0, 1) := by decide +kernel
theorem dX_command_123 : decode cX_command 123 = .ok (.getfield 63, 3) := by decide +kernel
theorem dX_command_126 : decode cX_command 126 = .ok (.invokestatic 147, 3) := by decide +kernel
theorem dX_command_129 : decode cX_command 129 = .ok (.ifCond .eq 7, 3) := by decide +kernel
theorem dX_command_132 : decode cX_command 132 = .ok (.iconst 1, 1) := by decide +kernel
theorem dX_command_133 : decode cX_command 133 = .ok (.goto 4, 3) := by decide +kernel
theorem dX_command_136 : decode cX_command 136 = .ok (.iconst 0, 1) := by decide +kernel
theorem dX_command_137 : decode cX_command 137 = .ok (.putfield 142, 3) := by decide +kernel
theorem dX_command_140 : decode cX_command 140 = .ok (.goto 134, 3) := by decide +kernel
theorem dX_command_143 : decode cX_command 143 = .ok (.iconst 0, 1) := by decide +kernel
theorem dX_command_144 : decode cX_command 144 = .ok (.istore_n 1, 1) := by decide +kernel
theorem dX_command_145 : decode cX_command 145 = .ok (.aload_n 0, 1) := by decide +kernel
theorem dX_command_146 : decode cX_command 146 = .ok (.getfield 90, 3) := by decide +kernel
theorem dX_command_149 : decode cX_command 149 = .ok (.aload_n 0, 1) := by decide +kernel
theorem dX_command_150 : decode cX_command 150 = .ok (.getfield 63, 3) := by decide +kernel
theorem dX_command_153 : decode cX_command 153 = .ok (.if_icmp .le 7, 3) := by decide +kernel
theorem dX_command_156 : decode cX_command 156 = .ok (.iconst 1, 1) := by decide +kernel
theorem dX_command_157 : decode cX_command 157 = .ok (.goto 4, 3) := by decide +kernel
theorem dX_command_160 : decode cX_command 160 = .ok (.iconst 0, 1) := by decide +kernel
theorem dX_command_161 : decode cX_command 161 = .ok (.istore_n 2, 1) := by decide +kernel
theorem dX_command_162 : decode cX_command 162 = .ok (.aload_n 0, 1) := by decide +kernel
theorem dX_command_163 : decode cX_command 163 = .ok (.getfield 87, 3) := by decide +kernel
theorem dX_command_166 : decode cX_command 166 = .ok (.aload_n 0, 1) := by decide +kernel
theorem dX_command_167 : decode cX_command 167 = .ok (.getfield 60, 3) := by decide +kernel
theorem dX_command_170 : decode cX_command 170 = .ok (.if_icmp .ge 7, 3) := by decide +kernel
theorem dX_command_173 : decode cX_command 173 = .ok (.iconst 1, 1) := by decide +kernel
theorem dX_command_174 : decode cX_command 174 = .ok (.goto 4, 3) := by decide +kernel
theorem dX_command_177 : decode cX_command 177 = .ok (.iconst 0, 1) := by decide +kernel
theorem dX_command_178 : decode cX_command 178 = .ok (.istore_n 3, 1) := by decide +kernel
theorem dX_command_179 : decode cX_command 179 = .ok (.iload_n 3, 1) := by decide +kernel
theorem dX_command_180 : decode cX_command 180 = .ok (.ifCond .eq 32, 3) := by decide +kernel
theorem dX_command_183 : decode cX_command 183 = .ok (.iload_n 2, 1) := by decide +kernel
theorem dX_command_184 : decode cX_command 184 = .ok (.ifCond .eq 24, 3) := by decide +kernel
theorem dX_command_187 : decode cX_command 187 = .ok (.aload_n 0, 1) := by decide +kernel
theorem dX_command_188 : decode cX_command 188 = .ok (.getfield 60, 3) := by decide +kernel
theorem dX_command_191 : decode cX_command 191 = .ok (.aload_n 0, 1) := by decide +kernel
theorem dX_command_192 : decode cX_command 192 = .ok (.getfield 87, 3) := by decide +kernel
theorem dX_command_195 : decode cX_command 195 = .ok (.isub, 1) := by decide +kernel
theorem dX_command_196 : decode cX_command 196 = .ok (.aload_n 0, 1) := by decide +kernel
theorem dX_command_197 : decode cX_command 197 = .ok (.getfield 90, 3) := by decide +kernel
theorem dX_command_200 : decode cX_command 200 = .ok (.aload_n 0, 1) := by decide +kernel
theorem dX_command_201 : decode cX_command 201 = .ok (.getfield 63, 3) := by decide +kernel
theorem dX_command_204 : decode cX_command 204 = .ok (.isub, 1) := by decide +kernel
theorem dX_command_205 : decode cX_command 205 = .ok (.if_icmp .le 7, 3) := by decide +kernel
theorem dX_command_208 : decode cX_command 208 = .ok (.iconst 1, 1) := by decide +kernel
theorem dX_command_209 : decode cX_command 209 = .ok (.goto 4, 3) := by decide +kernel
theorem dX_command_212 : decode cX_command 212 = .ok (.iconst 0, 1) := by decide +kernel
theorem dX_command_213 : decode cX_command 213 = .ok (.istore 4, 2) := by decide +kernel
theorem dX_command_215 : decode cX_command 215 = .ok (.iload_n 2, 1) := by decide +kernel
theorem dX_command_216 : decode cX_command 216 = .ok (.ifCond .ne 7, 3) := by decide +kernel
theorem dX_command_219 : decode cX_command 219 = .ok (.iload_n 3, 1) := by decide +kernel
theorem dX_command_220 : decode cX_command 220 = .ok (.ifCond .eq 54, 3) := by decide +kernel
theorem dX_command_223 : decode cX_command 223 = .ok (.iconst 0, 1) := by decide +kernel
theorem dX_command_224 : decode cX_command 224 = .ok (.istore 5, 2) := by decide +kernel
theorem dX_command_226 : decode cX_command 226 = .ok (.iload 5, 2) := by decide +kernel
theorem dX_command_228 : decode cX_command 228 = .ok (.iconst 4, 1) := by decide +kernel
theorem dX_command_229 : decode cX_command 229 = .ok (.if_icmp .ge 45, 3) := by decide +kernel
theorem dX_command_232 : decode cX_command 232 = .ok (.iload 4, 2) := by decide +kernel
theorem dX_command_234 : decode cX_command 234 = .ok (.ifCond .ne 14, 3) := by decide +kernel
theorem dX_command_237 : decode cX_command 237 = .ok (.aload_n 0, 1) := by decide +kernel
theorem dX_command_238 : decode cX_command 238 = .ok (.getfield 43, 3) := by decide +kernel
theorem dX_command_241 : decode cX_command 241 = .ok (.iload 5, 2) := by decide +kernel
theorem dX_command_243 : decode cX_command 243 = .ok (.iconst 0, 1) := by decide +kernel
theorem dX_command_244 : decode cX_command 244 = .ok (.bastore, 1) := by decide +kernel
theorem dX_command_245 : decode cX_command 245 = .ok (.goto 23, 3) := by decide +kernel
theorem dX_command_248 : decode cX_command 248 = .ok (.aload_n 0, 1) := by decide +kernel
theorem dX_command_249 : decode cX_command 249 = .ok (.getfield 7, 3) := by decide +kernel
theorem dX_command_252 : decode cX_command 252 = .ok (.iconst 2, 1) := by decide +kernel
theorem dX_command_253 : decode cX_command 253 = .ok (.iload 5, 2) := by decide +kernel
theorem dX_command_255 : decode cX_command 255 = .ok (.iadd, 1) := by decide +kernel
theorem dX_command_256 : decode cX_command 256 = .ok (.baload, 1) := by decide +kernel
theorem dX_command_257 : decode cX_command 257 = .ok (.ifCond .ne 11, 3) := by decide +kernel
theorem dX_command_260 : decode cX_command 260 = .ok (.aload_n 0, 1) := by decide +kernel
theorem dX_command_261 : decode cX_command 261 = .ok (.getfield 43, 3) := by decide +kernel
theorem dX_command_264 : decode cX_command 264 = .ok (.iload 5, 2) := by decide +kernel
theorem dX_command_266 : decode cX_command 266 = .ok (.iconst 1, 1) := by decide +kernel
theorem dX_command_267 : decode cX_command 267 = .ok (.bastore, 1) := by decide +kernel
theorem dX_command_268 : decode cX_command 268 = .ok (.iinc 5 1, 3) := by decide +kernel
theorem dX_command_271 : decode cX_command 271 = .ok (.goto (-45), 3) := by decide +kernel
theorem dX_command_274 : decode cX_command 274 = .ok (.iconst 0, 1) := by decide +kernel
theorem dX_command_275 : decode cX_command 275 = .ok (.istore_n 2, 1) := by decide +kernel
theorem dX_command_276 : decode cX_command 276 = .ok (.iload_n 2, 1) := by decide +kernel
theorem dX_command_277 : decode cX_command 277 = .ok (.iconst 4, 1) := by decide +kernel
theorem dX_command_278 : decode cX_command 278 = .ok (.if_icmp .ge 88, 3) := by decide +kernel
theorem dX_command_281 : decode cX_command 281 = .ok (.aload_n 0, 1) := by decide +kernel
theorem dX_command_282 : decode cX_command 282 = .ok (.getfield 43, 3) := by decide +kernel
theorem dX_command_285 : decode cX_command 285 = .ok (.iload_n 2, 1) := by decide +kernel
theorem dX_command_286 : decode cX_command 286 = .ok (.baload, 1) := by decide +kernel
theorem dX_command_287 : decode cX_command 287 = .ok (.aload_n 0, 1) := by decide +kernel
theorem dX_command_288 : decode cX_command 288 = .ok (.getfield 19, 3) := by decide +kernel
theorem dX_command_291 : decode cX_command 291 = .ok (.iload_n 2, 1) := by decide +kernel
theorem dX_command_292 : decode cX_command 292 = .ok (.baload, 1) := by decide +kernel
theorem dX_command_293 : decode cX_command 293 = .ok (.if_icmp .eq 31, 3) := by decide +kernel
theorem dX_command_296 : decode cX_command 296 = .ok (.aload_n 0, 1) := by decide +kernel
theorem dX_command_297 : decode cX_command 297 = .ok (.dup, 1) := by decide +kernel
theorem dX_command_298 : decode cX_command 298 = .ok (.getfield 136, 3) := by decide +kernel
theorem dX_command_301 : decode cX_command 301 = .ok (.aload_n 0, 1) := by decide +kernel
theorem dX_command_302 : decode cX_command 302 = .ok (.getfield 43, 3) := by decide +kernel
theorem dX_command_305 : decode cX_command 305 = .ok (.iload_n 2, 1) := by decide +kernel
theorem dX_command_306 : decode cX_command 306 = .ok (.baload, 1) := by decide +kernel
theorem dX_command_307 : decode cX_command 307 = .ok (.ifCond .eq 9, 3) := by decide +kernel
theorem dX_command_310 : decode cX_command 310 = .ok (.iconst 1, 1) := by decide +kernel
theorem dX_command_311 : decode cX_command 311 = .ok (.iload_n 2, 1) := by decide +kernel
theorem dX_command_312 : decode cX_command 312 = .ok (.ishl, 1) := by decide +kernel
theorem dX_command_313 : decode cX_command 313 = .ok (.goto 7, 3) := by decide +kernel
theorem dX_command_316 : decode cX_command 316 = .ok (.bipush 16, 2) := by decide +kernel
theorem dX_command_318 : decode cX_command 318 = .ok (.iload_n 2, 1) := by decide +kernel
theorem dX_command_319 : decode cX_command 319 = .ok (.ishl, 1) := by decide +kernel
theorem dX_command_320 : decode cX_command 320 = .ok (.ior, 1) := by decide +kernel
theorem dX_command_321 : decode cX_command 321 = .ok (.putfield 136, 3) := by decide +kernel
theorem dX_command_324 : decode cX_command 324 = .ok (.aload_n 0, 1) := by decide +kernel
theorem dX_command_325 : decode cX_command 325 = .ok (.getfield 22, 3) := by decide +kernel
theorem dX_command_328 : decode cX_command 328 = .ok (.iload_n 2, 1) := by decide +kernel
theorem dX_command_329 : decode cX_command 329 = .ok (.aload_n 0, 1) := by decide +kernel
theorem dX_command_330 : decode cX_command 330 = .ok (.getfield 19, 3) := by decide +kernel
theorem dX_command_333 : decode cX_command 333 = .ok (.iload_n 2, 1) := by decide +kernel
theorem dX_command_334 : decode cX_command 334 = .ok (.baload, 1) := by decide +kernel
theorem dX_command_335 : decode cX_command 335 = .ok (.bastore, 1) := by decide +kernel
theorem dX_command_336 : decode cX_command 336 = .ok (.aload_n 0, 1) := by decide +kernel
theorem dX_command_337 : decode cX_command 337 = .ok (.getfield 19, 3) := by decide +kernel
theorem dX_command_340 : decode cX_command 340 = .ok (.iload_n 2, 1) := by decide +kernel
theorem dX_command_341 : decode cX_command 341 = .ok (.aload_n 0, 1) := by decide +kernel
theorem dX_command_342 : decode cX_command 342 = .ok (.getfield 43, 3) := by decide +kernel
theorem dX_command_345 : decode cX_command 345 = .ok (.iload_n 2, 1) := by decide +kernel
theorem dX_command_346 : decode cX_command 346 = .ok (.baload, 1) := by decide +kernel
theorem dX_command_347 : decode cX_command 347 = .ok (.bastore, 1) := by decide +kernel
theorem dX_command_348 : decode cX_command 348 = .ok (.aload_n 0, 1) := by decide +kernel
theorem dX_command_349 : decode cX_command 349 = .ok (.getfield 25, 3) := by decide +kernel
theorem dX_command_352 : decode cX_command 352 = .ok (.iload_n 2, 1) := by decide +kernel
theorem dX_command_353 : decode cX_command 353 = .ok (.aload_n 0, 1) := by decide +kernel
theorem dX_command_354 : decode cX_command 354 = .ok (.getfield 34, 3) := by decide +kernel
theorem dX_command_357 : decode cX_command 357 = .ok (.iload_n 2, 1) := by decide +kernel
theorem dX_command_358 : decode cX_command 358 = .ok (.baload, 1) := by decide +kernel
theorem dX_command_359 : decode cX_command 359 = .ok (.bastore, 1) := by decide +kernel
theorem dX_command_360 : decode cX_command 360 = .ok (.iinc 2 1, 3) := by decide +kernel
theorem dX_command_363 : decode cX_command 363 = .ok (.goto (-87), 3) := by decide +kernel
theorem dX_command_366 : decode cX_command 366 = .ok (.iload_n 1, 1) := by decide +kernel
theorem dX_command_367 : decode cX_command 367 = .ok (.aload_n 0, 1) := by decide +kernel
theorem dX_command_368 : decode cX_command 368 = .ok (.getfield 102, 3) := by decide +kernel
theorem dX_command_371 : decode cX_command 371 = .ok (.if_icmp .eq 16, 3) := by decide +kernel
theorem dX_command_374 : decode cX_command 374 = .ok (.aload_n 0, 1) := by decide +kernel
theorem dX_command_375 : decode cX_command 375 = .ok (.iload_n 1, 1) := by decide +kernel
theorem dX_command_376 : decode cX_command 376 = .ok (.ifCond .eq 7, 3) := by decide +kernel
theorem dX_command_379 : decode cX_command 379 = .ok (.iconst 1, 1) := by decide +kernel
theorem dX_command_380 : decode cX_command 380 = .ok (.goto 4, 3) := by decide +kernel
theorem dX_command_383 : decode cX_command 383 = .ok (.iconst 2, 1) := by decide +kernel
theorem dX_command_384 : decode cX_command 384 = .ok (.putfield 139, 3) := by decide +kernel
theorem dX_command_387 : decode cX_command 387 = .ok (.aload_n 0, 1) := by decide +kernel
theorem dX_command_388 : decode cX_command 388 = .ok (.iload_n 1, 1) := by decide +kernel
theorem dX_command_389 : decode cX_command 389 = .ok (.putfield 102, 3) := by decide +kernel
theorem dX_command_392 : decode cX_command 392 = .ok (.return_, 1) := by decide +kernel
theorem dX_told_0 : decode cX_told 0 = .ok (.aload_n 0, 1) := by decide +kernel
theorem dX_told_1 : decode cX_told 1 = .ok (.iconst 0, 1) := by decide +kernel
theorem dX_told_2 : decode cX_told 2 = .ok (.putfield 50, 3) := by decide +kernel
theorem dX_told_5 : decode cX_told 5 = .ok (.aload_n 0, 1) := by decide +kernel
theorem dX_told_6 : decode cX_told 6 = .ok (.iload_n 1, 1) := by decide +kernel
theorem dX_told_7 : decode cX_told 7 = .ok (.iconst 0, 1) := by decide +kernel
theorem dX_told_8 : decode cX_told 8 = .ok (.iconst 4, 1) := by decide +kernel
theorem dX_told_9 : decode cX_told 9 = .ok (.invokestatic 147, 3) := by decide +kernel
theorem dX_told_12 : decode cX_told 12 = .ok (.ifCond .ne 7, 3) := by decide +kernel
theorem dX_told_15 : decode cX_told 15 = .ok (.iconst 1, 1) := by decide +kernel
theorem dX_told_16 : decode cX_told 16 = .ok (.goto 4, 3) := by decide +kernel
theorem dX_told_19 : decode cX_told 19 = .ok (.iconst 0, 1) := by decide +kernel
theorem dX_told_20 : decode cX_told 20 = .ok (.iconst 1, 1) := by decide +kernel
theorem dX_told_21 : decode cX_told 21 = .ok (.invokevirtual 151, 3) := by decide +kernel
theorem dX_told_24 : decode cX_told 24 = .ok (.ifCond .eq 5, 3) := by decide +kernel
theorem dX_told_27 : decode cX_told 27 = .ok (.iconst 0, 1) := by decide +kernel
theorem dX_told_28 : decode cX_told 28 = .ok (.ireturn, 1) := by decide +kernel
theorem dX_told_29 : decode cX_told 29 = .ok (.iload_n 1, 1) := by decide +kernel
theorem dX_told_30 : decode cX_told 30 = .ok (.ifCond .ne 10, 3) := by decide +kernel
theorem dX_told_33 : decode cX_told 33 = .ok (.aload_n 0, 1) := by decide +kernel
theorem dX_told_34 : decode cX_told 34 = .ok (.getfield 136, 3) := by decide +kernel
theorem dX_told_37 : decode cX_told 37 = .ok (.goto 43, 3) := by decide +kernel
theorem dX_told_40 : decode cX_told 40 = .ok (.iload_n 1, 1) := by decide +kernel
theorem dX_told_41 : decode cX_told 41 = .ok (.iconst 1, 1) := by decide +kernel
theorem dX_told_42 : decode cX_told 42 = .ok (.if_icmp .ne 10, 3) := by decide +kernel
theorem dX_told_45 : decode cX_told 45 = .ok (.aload_n 0, 1) := by decide +kernel
theorem dX_told_46 : decode cX_told 46 = .ok (.getfield 139, 3) := by decide +kernel
theorem dX_told_49 : decode cX_told 49 = .ok (.goto 31, 3) := by decide +kernel
theorem dX_told_52 : decode cX_told 52 = .ok (.iload_n 1, 1) := by decide +kernel
theorem dX_told_53 : decode cX_told 53 = .ok (.iconst 2, 1) := by decide +kernel
theorem dX_told_54 : decode cX_told 54 = .ok (.if_icmp .ne 10, 3) := by decide +kernel
theorem dX_told_57 : decode cX_told 57 = .ok (.aload_n 0, 1) := by decide +kernel
theorem dX_told_58 : decode cX_told 58 = .ok (.getfield 130, 3) := by decide +kernel
theorem dX_told_61 : decode cX_told 61 = .ok (.goto 19, 3) := by decide +kernel
theorem dX_told_64 : decode cX_told 64 = .ok (.iload_n 1, 1) := by decide +kernel
theorem dX_told_65 : decode cX_told 65 = .ok (.iconst 3, 1) := by decide +kernel
theorem dX_told_66 : decode cX_told 66 = .ok (.if_icmp .ne 10, 3) := by decide +kernel
theorem dX_told_69 : decode cX_told 69 = .ok (.aload_n 0, 1) := by decide +kernel
theorem dX_told_70 : decode cX_told 70 = .ok (.getfield 133, 3) := by decide +kernel
theorem dX_told_73 : decode cX_told 73 = .ok (.goto 7, 3) := by decide +kernel
theorem dX_told_76 : decode cX_told 76 = .ok (.aload_n 0, 1) := by decide +kernel
theorem dX_told_77 : decode cX_told 77 = .ok (.getfield 142, 3) := by decide +kernel
theorem dX_told_80 : decode cX_told 80 = .ok (.ireturn, 1) := by decide +kernel
theorem dX_state_0 : decode cX_state 0 = .ok (.aload_n 0, 1) := by decide +kernel
theorem dX_state_1 : decode cX_state 1 = .ok (.iconst 0, 1) := by decide +kernel
theorem dX_state_2 : decode cX_state 2 = .ok (.putfield 50, 3) := by decide +kernel
theorem dX_state_5 : decode cX_state 5 = .ok (.aload_n 0, 1) := by decide +kernel
theorem dX_state_6 : decode cX_state 6 = .ok (.iload_n 1, 1) := by decide +kernel
theorem dX_state_7 : decode cX_state 7 = .ok (.iconst 0, 1) := by decide +kernel
theorem dX_state_8 : decode cX_state 8 = .ok (.bipush 9, 2) := by decide +kernel
theorem dX_state_10 : decode cX_state 10 = .ok (.invokestatic 147, 3) := by decide +kernel
theorem dX_state_13 : decode cX_state 13 = .ok (.ifCond .ne 7, 3) := by decide +kernel
theorem dX_state_16 : decode cX_state 16 = .ok (.iconst 1, 1) := by decide +kernel
theorem dX_state_17 : decode cX_state 17 = .ok (.goto 4, 3) := by decide +kernel
theorem dX_state_20 : decode cX_state 20 = .ok (.iconst 0, 1) := by decide +kernel
theorem dX_state_21 : decode cX_state 21 = .ok (.iconst 1, 1) := by decide +kernel
theorem dX_state_22 : decode cX_state 22 = .ok (.invokevirtual 151, 3) := by decide +kernel
theorem dX_state_25 : decode cX_state 25 = .ok (.ifCond .eq 5, 3) := by decide +kernel
theorem dX_state_28 : decode cX_state 28 = .ok (.iconst 0, 1) := by decide +kernel
theorem dX_state_29 : decode cX_state 29 = .ok (.ireturn, 1) := by decide +kernel
theorem dX_state_30 : decode cX_state 30 = .ok (.iconst 0, 1) := by decide +kernel
theorem dX_state_31 : decode cX_state 31 = .ok (.istore_n 2, 1) := by decide +kernel
theorem dX_state_32 : decode cX_state 32 = .ok (.iload_n 1, 1) := by decide +kernel
theorem dX_state_33 : decode cX_state 33 = .ok (.tableswitch 181 0 8 #[51, 56, 61, 66, 71, 102, 133, 163, 176], 51) := by decide +kernel
theorem dX_state_84 : decode cX_state 84 = .ok (.aload_n 0, 1) := by decide +kernel
theorem dX_state_85 : decode cX_state 85 = .ok (.getfield 87, 3) := by decide +kernel
theorem dX_state_88 : decode cX_state 88 = .ok (.ireturn, 1) := by decide +kernel
theorem dX_state_89 : decode cX_state 89 = .ok (.aload_n 0, 1) := by decide +kernel
theorem dX_state_90 : decode cX_state 90 = .ok (.getfield 90, 3) := by decide +kernel
theorem dX_state_93 : decode cX_state 93 = .ok (.ireturn, 1) := by decide +kernel
theorem dX_state_94 : decode cX_state 94 = .ok (.aload_n 0, 1) := by decide +kernel
theorem dX_state_95 : decode cX_state 95 = .ok (.getfield 93, 3) := by decide +kernel
