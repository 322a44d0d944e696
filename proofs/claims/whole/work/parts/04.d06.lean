theorem dX_state_98 : decode cX_state 98 = .ok (.ireturn, 1) := by decide +kernel
theorem dX_state_99 : decode cX_state 99 = .ok (.aload_n 0, 1) := by decide +kernel
theorem dX_state_100 : decode cX_state 100 = .ok (.getfield 96, 3) := by decide +kernel
theorem dX_state_103 : decode cX_state 103 = .ok (.ireturn, 1) := by decide +kernel
theorem dX_state_104 : decode cX_state 104 = .ok (.iconst 0, 1) := by decide +kernel
theorem dX_state_105 : decode cX_state 105 = .ok (.istore_n 3, 1) := by decide +kernel
theorem dX_state_106 : decode cX_state 106 = .ok (.iload_n 3, 1) := by decide +kernel
theorem dX_state_107 : decode cX_state 107 = .ok (.bipush 10, 2) := by decide +kernel
theorem dX_state_109 : decode cX_state 109 = .ok (.if_icmp .ge 24, 3) := by decide +kernel
theorem dX_state_112 : decode cX_state 112 = .ok (.aload_n 0, 1) := by decide +kernel
theorem dX_state_113 : decode cX_state 113 = .ok (.getfield 7, 3) := by decide +kernel
theorem dX_state_116 : decode cX_state 116 = .ok (.iload_n 3, 1) := by decide +kernel
theorem dX_state_117 : decode cX_state 117 = .ok (.baload, 1) := by decide +kernel
theorem dX_state_118 : decode cX_state 118 = .ok (.ifCond .eq 9, 3) := by decide +kernel
theorem dX_state_121 : decode cX_state 121 = .ok (.iload_n 2, 1) := by decide +kernel
theorem dX_state_122 : decode cX_state 122 = .ok (.iconst 1, 1) := by decide +kernel
theorem dX_state_123 : decode cX_state 123 = .ok (.iload_n 3, 1) := by decide +kernel
theorem dX_state_124 : decode cX_state 124 = .ok (.ishl, 1) := by decide +kernel
theorem dX_state_125 : decode cX_state 125 = .ok (.ior, 1) := by decide +kernel
theorem dX_state_126 : decode cX_state 126 = .ok (.istore_n 2, 1) := by decide +kernel
theorem dX_state_127 : decode cX_state 127 = .ok (.iinc 3 1, 3) := by decide +kernel
theorem dX_state_130 : decode cX_state 130 = .ok (.goto (-24), 3) := by decide +kernel
theorem dX_state_133 : decode cX_state 133 = .ok (.iload_n 2, 1) := by decide +kernel
theorem dX_state_134 : decode cX_state 134 = .ok (.ireturn, 1) := by decide +kernel
theorem dX_state_135 : decode cX_state 135 = .ok (.iconst 0, 1) := by decide +kernel
theorem dX_state_136 : decode cX_state 136 = .ok (.istore_n 3, 1) := by decide +kernel
theorem dX_state_137 : decode cX_state 137 = .ok (.iload_n 3, 1) := by decide +kernel
theorem dX_state_138 : decode cX_state 138 = .ok (.bipush 10, 2) := by decide +kernel
theorem dX_state_140 : decode cX_state 140 = .ok (.if_icmp .ge 24, 3) := by decide +kernel
theorem dX_state_143 : decode cX_state 143 = .ok (.aload_n 0, 1) := by decide +kernel
theorem dX_state_144 : decode cX_state 144 = .ok (.getfield 13, 3) := by decide +kernel
theorem dX_state_147 : decode cX_state 147 = .ok (.iload_n 3, 1) := by decide +kernel
theorem dX_state_148 : decode cX_state 148 = .ok (.baload, 1) := by decide +kernel
theorem dX_state_149 : decode cX_state 149 = .ok (.ifCond .eq 9, 3) := by decide +kernel
theorem dX_state_152 : decode cX_state 152 = .ok (.iload_n 2, 1) := by decide +kernel
theorem dX_state_153 : decode cX_state 153 = .ok (.iconst 1, 1) := by decide +kernel
theorem dX_state_154 : decode cX_state 154 = .ok (.iload_n 3, 1) := by decide +kernel
theorem dX_state_155 : decode cX_state 155 = .ok (.ishl, 1) := by decide +kernel
theorem dX_state_156 : decode cX_state 156 = .ok (.ior, 1) := by decide +kernel
theorem dX_state_157 : decode cX_state 157 = .ok (.istore_n 2, 1) := by decide +kernel
theorem dX_state_158 : decode cX_state 158 = .ok (.iinc 3 1, 3) := by decide +kernel
theorem dX_state_161 : decode cX_state 161 = .ok (.goto (-24), 3) := by decide +kernel
theorem dX_state_164 : decode cX_state 164 = .ok (.iload_n 2, 1) := by decide +kernel
theorem dX_state_165 : decode cX_state 165 = .ok (.ireturn, 1) := by decide +kernel
theorem dX_state_166 : decode cX_state 166 = .ok (.iconst 0, 1) := by decide +kernel
theorem dX_state_167 : decode cX_state 167 = .ok (.istore_n 3, 1) := by decide +kernel
theorem dX_state_168 : decode cX_state 168 = .ok (.iload_n 3, 1) := by decide +kernel
theorem dX_state_169 : decode cX_state 169 = .ok (.iconst 4, 1) := by decide +kernel
theorem dX_state_170 : decode cX_state 170 = .ok (.if_icmp .ge 24, 3) := by decide +kernel
theorem dX_state_173 : decode cX_state 173 = .ok (.aload_n 0, 1) := by decide +kernel
theorem dX_state_174 : decode cX_state 174 = .ok (.getfield 19, 3) := by decide +kernel
theorem dX_state_177 : decode cX_state 177 = .ok (.iload_n 3, 1) := by decide +kernel
theorem dX_state_178 : decode cX_state 178 = .ok (.baload, 1) := by decide +kernel
theorem dX_state_179 : decode cX_state 179 = .ok (.ifCond .eq 9, 3) := by decide +kernel
theorem dX_state_182 : decode cX_state 182 = .ok (.iload_n 2, 1) := by decide +kernel
theorem dX_state_183 : decode cX_state 183 = .ok (.iconst 1, 1) := by decide +kernel
theorem dX_state_184 : decode cX_state 184 = .ok (.iload_n 3, 1) := by decide +kernel
theorem dX_state_185 : decode cX_state 185 = .ok (.ishl, 1) := by decide +kernel
theorem dX_state_186 : decode cX_state 186 = .ok (.ior, 1) := by decide +kernel
theorem dX_state_187 : decode cX_state 187 = .ok (.istore_n 2, 1) := by decide +kernel
theorem dX_state_188 : decode cX_state 188 = .ok (.iinc 3 1, 3) := by decide +kernel
theorem dX_state_191 : decode cX_state 191 = .ok (.goto (-23), 3) := by decide +kernel
theorem dX_state_194 : decode cX_state 194 = .ok (.iload_n 2, 1) := by decide +kernel
theorem dX_state_195 : decode cX_state 195 = .ok (.ireturn, 1) := by decide +kernel
theorem dX_state_196 : decode cX_state 196 = .ok (.aload_n 0, 1) := by decide +kernel
theorem dX_state_197 : decode cX_state 197 = .ok (.getfield 102, 3) := by decide +kernel
theorem dX_state_200 : decode cX_state 200 = .ok (.ifCond .eq 7, 3) := by decide +kernel
theorem dX_state_203 : decode cX_state 203 = .ok (.iconst 1, 1) := by decide +kernel
theorem dX_state_204 : decode cX_state 204 = .ok (.goto 4, 3) := by decide +kernel
theorem dX_state_207 : decode cX_state 207 = .ok (.iconst 0, 1) := by decide +kernel
theorem dX_state_208 : decode cX_state 208 = .ok (.ireturn, 1) := by decide +kernel
theorem dX_state_209 : decode cX_state 209 = .ok (.aload_n 0, 1) := by decide +kernel
theorem dX_state_210 : decode cX_state 210 = .ok (.getfield 81, 3) := by decide +kernel
theorem dX_state_213 : decode cX_state 213 = .ok (.ireturn, 1) := by decide +kernel
theorem dX_state_214 : decode cX_state 214 = .ok (.aload_n 0, 1) := by decide +kernel
theorem dX_state_215 : decode cX_state 215 = .ok (.getfield 84, 3) := by decide +kernel
theorem dX_state_218 : decode cX_state 218 = .ok (.ireturn, 1) := by decide +kernel
theorem dI_init_0 : decode cI_init 0 = .ok (.aload_n 0, 1) := by decide +kernel
theorem dI_init_1 : decode cI_init 1 = .ok (.invokespecial 3, 3) := by decide +kernel
theorem dI_init_4 : decode cI_init 4 = .ok (.return_, 1) := by decide +kernel
theorem dI_hasAllReadings_0 : decode cI_hasAllReadings 0 = .ok (.aload_n 0, 1) := by decide +kernel
theorem dI_hasAllReadings_1 : decode cI_hasAllReadings 1 = .ok (.getfield 9, 3) := by decide +kernel
theorem dI_hasAllReadings_4 : decode cI_hasAllReadings 4 = .ok (.ifCond .eq 23, 3) := by decide +kernel
theorem dI_hasAllReadings_7 : decode cI_hasAllReadings 7 = .ok (.aload_n 0, 1) := by decide +kernel
theorem dI_hasAllReadings_8 : decode cI_hasAllReadings 8 = .ok (.getfield 15, 3) := by decide +kernel
theorem dI_hasAllReadings_11 : decode cI_hasAllReadings 11 = .ok (.ifCond .eq 16, 3) := by decide +kernel
theorem dI_hasAllReadings_14 : decode cI_hasAllReadings 14 = .ok (.aload_n 0, 1) := by decide +kernel
theorem dI_hasAllReadings_15 : decode cI_hasAllReadings 15 = .ok (.getfield 18, 3) := by decide +kernel
theorem dI_hasAllReadings_18 : decode cI_hasAllReadings 18 = .ok (.bipush 15, 2) := by decide +kernel
theorem dI_hasAllReadings_20 : decode cI_hasAllReadings 20 = .ok (.if_icmp .ne 7, 3) := by decide +kernel
theorem dI_hasAllReadings_23 : decode cI_hasAllReadings 23 = .ok (.iconst 1, 1) := by decide +kernel
theorem dI_hasAllReadings_24 : decode cI_hasAllReadings 24 = .ok (.goto 4, 3) := by decide +kernel
theorem dI_hasAllReadings_27 : decode cI_hasAllReadings 27 = .ok (.iconst 0, 1) := by decide +kernel
theorem dI_hasAllReadings_28 : decode cI_hasAllReadings 28 = .ok (.ireturn, 1) := by decide +kernel
theorem dI_clear_0 : decode cI_clear 0 = .ok (.aload_n 0, 1) := by decide +kernel
theorem dI_clear_1 : decode cI_clear 1 = .ok (.iconst 0, 1) := by decide +kernel
theorem dI_clear_2 : decode cI_clear 2 = .ok (.putfield 9, 3) := by decide +kernel
theorem dI_clear_5 : decode cI_clear 5 = .ok (.aload_n 0, 1) := by decide +kernel
theorem dI_clear_6 : decode cI_clear 6 = .ok (.iconst 0, 1) := by decide +kernel
theorem dI_clear_7 : decode cI_clear 7 = .ok (.putfield 22, 3) := by decide +kernel
theorem dI_clear_10 : decode cI_clear 10 = .ok (.aload_n 0, 1) := by decide +kernel
theorem dI_clear_11 : decode cI_clear 11 = .ok (.iconst 0, 1) := by decide +kernel
theorem dI_clear_12 : decode cI_clear 12 = .ok (.putfield 15, 3) := by decide +kernel
theorem dI_clear_15 : decode cI_clear 15 = .ok (.aload_n 0, 1) := by decide +kernel
theorem dI_clear_16 : decode cI_clear 16 = .ok (.iconst 0, 1) := by decide +kernel
theorem dI_clear_17 : decode cI_clear 17 = .ok (.putfield 25, 3) := by decide +kernel
theorem dI_clear_20 : decode cI_clear 20 = .ok (.aload_n 0, 1) := by decide +kernel
theorem dI_clear_21 : decode cI_clear 21 = .ok (.iconst 0, 1) := by decide +kernel
theorem dI_clear_22 : decode cI_clear 22 = .ok (.putfield 18, 3) := by decide +kernel
theorem dI_clear_25 : decode cI_clear 25 = .ok (.aload_n 0, 1) := by decide +kernel
theorem dI_clear_26 : decode cI_clear 26 = .ok (.iconst 0, 1) := by decide +kernel
theorem dI_clear_27 : decode cI_clear 27 = .ok (.putfield 28, 3) := by decide +kernel
theorem dI_clear_30 : decode cI_clear 30 = .ok (.aload_n 0, 1) := by decide +kernel
theorem dI_clear_31 : decode cI_clear 31 = .ok (.iconst 0, 1) := by decide +kernel
theorem dI_clear_32 : decode cI_clear 32 = .ok (.putfield 31, 3) := by decide +kernel
theorem dI_clear_35 : decode cI_clear 35 = .ok (.aload_n 0, 1) := by decide +kernel
theorem dI_clear_36 : decode cI_clear 36 = .ok (.iconst 0, 1) := by decide +kernel
theorem dI_clear_37 : decode cI_clear 37 = .ok (.putfield 34, 3) := by decide +kernel
theorem dI_clear_40 : decode cI_clear 40 = .ok (.aload_n 0, 1) := by decide +kernel
theorem dI_clear_41 : decode cI_clear 41 = .ok (.iconst 0, 1) := by decide +kernel
theorem dI_clear_42 : decode cI_clear 42 = .ok (.putfield 37, 3) := by decide +kernel
theorem dI_clear_45 : decode cI_clear 45 = .ok (.aload_n 0, 1) := by decide +kernel
theorem dI_clear_46 : decode cI_clear 46 = .ok (.iconst 0, 1) := by decide +kernel
theorem dI_clear_47 : decode cI_clear 47 = .ok (.putfield 40, 3) := by decide +kernel
theorem dI_clear_50 : decode cI_clear 50 = .ok (.aload_n 0, 1) := by decide +kernel
theorem dI_clear_51 : decode cI_clear 51 = .ok (.iconst 0, 1) := by decide +kernel
theorem dI_clear_52 : decode cI_clear 52 = .ok (.putfield 43, 3) := by decide +kernel
theorem dI_clear_55 : decode cI_clear 55 = .ok (.aload_n 0, 1) := by decide +kernel
theorem dI_clear_56 : decode cI_clear 56 = .ok (.iconst 0, 1) := by decide +kernel
theorem dI_clear_57 : decode cI_clear 57 = .ok (.putfield 46, 3) := by decide +kernel
theorem dI_clear_60 : decode cI_clear 60 = .ok (.return_, 1) := by decide +kernel
theorem dM_init_0 : decode cM_init 0 = .ok (.aload_n 0, 1) := by decide +kernel
theorem dM_init_1 : decode cM_init 1 = .ok (.invokespecial 3, 3) := by decide +kernel
theorem dM_init_4 : decode cM_init 4 = .ok (.return_, 1) := by decide +kernel
theorem dM_remember_0 : decode cM_remember 0 = .ok (.aload_n 0, 1) := by decide +kernel
theorem dM_remember_1 : decode cM_remember 1 = .ok (.aload_n 0, 1) := by decide +kernel
theorem dM_remember_2 : decode cM_remember 2 = .ok (.getfield 9, 3) := by decide +kernel
theorem dM_remember_5 : decode cM_remember 5 = .ok (.putfield 15, 3) := by decide +kernel
theorem dM_remember_8 : decode cM_remember 8 = .ok (.aload_n 0, 1) := by decide +kernel
theorem dM_remember_9 : decode cM_remember 9 = .ok (.iload_n 1, 1) := by decide +kernel
theorem dM_remember_10 : decode cM_remember 10 = .ok (.putfield 18, 3) := by decide +kernel
theorem dM_remember_13 : decode cM_remember 13 = .ok (.return_, 1) := by decide +kernel
theorem dM_pumpsSurelyGiving_0 : decode cM_pumpsSurelyGiving 0 = .ok (.iload_n 1, 1) := by decide +kernel
theorem dM_pumpsSurelyGiving_1 : decode cM_pumpsSurelyGiving 1 = .ok (.invokestatic 21, 3) := by decide +kernel
theorem dM_pumpsSurelyGiving_4 : decode cM_pumpsSurelyGiving 4 = .ok (.aload_n 0, 1) := by decide +kernel
theorem dM_pumpsSurelyGiving_5 : decode cM_pumpsSurelyGiving 5 = .ok (.getfield 9, 3) := by decide +kernel
theorem dM_pumpsSurelyGiving_8 : decode cM_pumpsSurelyGiving 8 = .ok (.iand, 1) := by decide +kernel
theorem dM_pumpsSurelyGiving_9 : decode cM_pumpsSurelyGiving 9 = .ok (.aload_n 0, 1) := by decide +kernel
theorem dM_pumpsSurelyGiving_10 : decode cM_pumpsSurelyGiving 10 = .ok (.getfield 15, 3) := by decide +kernel
theorem dM_pumpsSurelyGiving_13 : decode cM_pumpsSurelyGiving 13 = .ok (.iand, 1) := by decide +kernel
theorem dM_pumpsSurelyGiving_14 : decode cM_pumpsSurelyGiving 14 = .ok (.aload_n 0, 1) := by decide +kernel
theorem dM_pumpsSurelyGiving_15 : decode cM_pumpsSurelyGiving 15 = .ok (.getfield 18, 3) := by decide +kernel
theorem dM_pumpsSurelyGiving_18 : decode cM_pumpsSurelyGiving 18 = .ok (.iand, 1) := by decide +kernel
theorem dM_pumpsSurelyGiving_19 : decode cM_pumpsSurelyGiving 19 = .ok (.ireturn, 1) := by decide +kernel
theorem dM_pumpsSurelyIdle_0 : decode cM_pumpsSurelyIdle 0 = .ok (.iload_n 1, 1) := by decide +kernel
theorem dM_pumpsSurelyIdle_1 : decode cM_pumpsSurelyIdle 1 = .ok (.invokestatic 21, 3) := by decide +kernel
theorem dM_pumpsSurelyIdle_4 : decode cM_pumpsSurelyIdle 4 = .ok (.aload_n 0, 1) := by decide +kernel
theorem dM_pumpsSurelyIdle_5 : decode cM_pumpsSurelyIdle 5 = .ok (.getfield 9, 3) := by decide +kernel
theorem dM_pumpsSurelyIdle_8 : decode cM_pumpsSurelyIdle 8 = .ok (.iconst (-1), 1) := by decide +kernel
theorem dM_pumpsSurelyIdle_9 : decode cM_pumpsSurelyIdle 9 = .ok (.ixor, 1) := by decide +kernel
theorem dM_pumpsSurelyIdle_10 : decode cM_pumpsSurelyIdle 10 = .ok (.iand, 1) := by decide +kernel
theorem dM_pumpsSurelyIdle_11 : decode cM_pumpsSurelyIdle 11 = .ok (.ireturn, 1) := by decide +kernel
theorem dM_trusted_0 : decode cM_trusted 0 = .ok (.bipush 15, 2) := by decide +kernel
theorem dM_trusted_2 : decode cM_trusted 2 = .ok (.iload_n 0, 1) := by decide +kernel
theorem dM_trusted_3 : decode cM_trusted 3 = .ok (.iconst 2, 1) := by decide +kernel
theorem dM_trusted_4 : decode cM_trusted 4 = .ok (.ishr, 1) := by decide +kernel
theorem dM_trusted_5 : decode cM_trusted 5 = .ok (.iconst (-1), 1) := by decide +kernel
theorem dM_trusted_6 : decode cM_trusted 6 = .ok (.ixor, 1) := by decide +kernel
theorem dM_trusted_7 : decode cM_trusted 7 = .ok (.iand, 1) := by decide +kernel
theorem dM_trusted_8 : decode cM_trusted 8 = .ok (.iload_n 0, 1) := by decide +kernel
theorem dM_trusted_9 : decode cM_trusted 9 = .ok (.bipush 6, 2) := by decide +kernel
theorem dM_trusted_11 : decode cM_trusted 11 = .ok (.ishr, 1) := by decide +kernel
theorem dM_trusted_12 : decode cM_trusted 12 = .ok (.iconst (-1), 1) := by decide +kernel
theorem dM_trusted_13 : decode cM_trusted 13 = .ok (.ixor, 1) := by decide +kernel
theorem dM_trusted_14 : decode cM_trusted 14 = .ok (.iand, 1) := by decide +kernel
theorem dM_trusted_15 : decode cM_trusted 15 = .ok (.ireturn, 1) := by decide +kernel
theorem dM_clear_0 : decode cM_clear 0 = .ok (.aload_n 0, 1) := by decide +kernel
theorem dM_clear_1 : decode cM_clear 1 = .ok (.iconst 0, 1) := by decide +kernel
theorem dM_clear_2 : decode cM_clear 2 = .ok (.putfield 9, 3) := by decide +kernel
theorem dM_clear_5 : decode cM_clear 5 = .ok (.aload_n 0, 1) := by decide +kernel
theorem dM_clear_6 : decode cM_clear 6 = .ok (.iconst 0, 1) := by decide +kernel
theorem dM_clear_7 : decode cM_clear 7 = .ok (.putfield 15, 3) := by decide +kernel
theorem dM_clear_10 : decode cM_clear 10 = .ok (.aload_n 0, 1) := by decide +kernel
theorem dM_clear_11 : decode cM_clear 11 = .ok (.iconst 0, 1) := by decide +kernel
theorem dM_clear_12 : decode cM_clear 12 = .ok (.putfield 18, 3) := by decide +kernel
theorem dM_clear_15 : decode cM_clear 15 = .ok (.aload_n 0, 1) := by decide +kernel
theorem dM_clear_16 : decode cM_clear 16 = .ok (.iconst 0, 1) := by decide +kernel
theorem dM_clear_17 : decode cM_clear 17 = .ok (.putfield 25, 3) := by decide +kernel
theorem dM_clear_20 : decode cM_clear 20 = .ok (.return_, 1) := by decide +kernel
theorem dP_init_0 : decode cP_init 0 = .ok (.aload_n 0, 1) := by decide +kernel
theorem dP_init_1 : decode cP_init 1 = .ok (.invokespecial 1, 3) := by decide +kernel
theorem dP_init_4 : decode cP_init 4 = .ok (.return_, 1) := by decide +kernel
theorem dP_setLimits_0 : decode cP_setLimits 0 = .ok (.aload_n 0, 1) := by decide +kernel
theorem dP_setLimits_1 : decode cP_setLimits 1 = .ok (.iload_n 1, 1) := by decide +kernel
theorem dP_setLimits_2 : decode cP_setLimits 2 = .ok (.putfield 7, 3) := by decide +kernel
theorem dP_setLimits_5 : decode cP_setLimits 5 = .ok (.aload_n 0, 1) := by decide +kernel
theorem dP_setLimits_6 : decode cP_setLimits 6 = .ok (.iload_n 2, 1) := by decide +kernel
theorem dP_setLimits_7 : decode cP_setLimits 7 = .ok (.putfield 13, 3) := by decide +kernel
theorem dP_setLimits_10 : decode cP_setLimits 10 = .ok (.aload_n 0, 1) := by decide +kernel
theorem dP_setLimits_11 : decode cP_setLimits 11 = .ok (.iload_n 3, 1) := by decide +kernel
theorem dP_setLimits_12 : decode cP_setLimits 12 = .ok (.putfield 16, 3) := by decide +kernel
theorem dP_setLimits_15 : decode cP_setLimits 15 = .ok (.aload_n 0, 1) := by decide +kernel
theorem dP_setLimits_16 : decode cP_setLimits 16 = .ok (.iload 4, 2) := by decide +kernel
theorem dP_setLimits_18 : decode cP_setLimits 18 = .ok (.putfield 19, 3) := by decide +kernel
theorem dP_setLimits_21 : decode cP_setLimits 21 = .ok (.aload_n 0, 1) := by decide +kernel
theorem dP_setLimits_22 : decode cP_setLimits 22 = .ok (.iload 5, 2) := by decide +kernel
theorem dP_setLimits_24 : decode cP_setLimits 24 = .ok (.putfield 22, 3) := by decide +kernel
theorem dP_setLimits_27 : decode cP_setLimits 27 = .ok (.return_, 1) := by decide +kernel
theorem dP_setRates_0 : decode cP_setRates 0 = .ok (.aload_n 0, 1) := by decide +kernel
theorem dP_setRates_1 : decode cP_setRates 1 = .ok (.iload_n 1, 1) := by decide +kernel
theorem dP_setRates_2 : decode cP_setRates 2 = .ok (.putfield 25, 3) := by decide +kernel
theorem dP_setRates_5 : decode cP_setRates 5 = .ok (.aload_n 0, 1) := by decide +kernel
theorem dP_setRates_6 : decode cP_setRates 6 = .ok (.iload_n 2, 1) := by decide +kernel
theorem dP_setRates_7 : decode cP_setRates 7 = .ok (.putfield 28, 3) := by decide +kernel
theorem dP_setRates_10 : decode cP_setRates 10 = .ok (.aload_n 0, 1) := by decide +kernel
theorem dP_setRates_11 : decode cP_setRates 11 = .ok (.iload_n 3, 1) := by decide +kernel
theorem dP_setRates_12 : decode cP_setRates 12 = .ok (.putfield 31, 3) := by decide +kernel
theorem dP_setRates_15 : decode cP_setRates 15 = .ok (.aload_n 0, 1) := by decide +kernel
theorem dP_setRates_16 : decode cP_setRates 16 = .ok (.iload 4, 2) := by decide +kernel
theorem dP_setRates_18 : decode cP_setRates 18 = .ok (.putfield 34, 3) := by decide +kernel
theorem dP_setRates_21 : decode cP_setRates 21 = .ok (.return_, 1) := by decide +kernel
theorem dP_isNormalLevel_0 : decode cP_isNormalLevel 0 = .ok (.iload_n 1, 1) := by decide +kernel
theorem dP_isNormalLevel_1 : decode cP_isNormalLevel 1 = .ok (.aload_n 0, 1) := by decide +kernel
theorem dP_isNormalLevel_2 : decode cP_isNormalLevel 2 = .ok (.getfield 16, 3) := by decide +kernel
theorem dP_isNormalLevel_5 : decode cP_isNormalLevel 5 = .ok (.aload_n 0, 1) := by decide +kernel
theorem dP_isNormalLevel_6 : decode cP_isNormalLevel 6 = .ok (.getfield 19, 3) := by decide +kernel
theorem dP_isNormalLevel_9 : decode cP_isNormalLevel 9 = .ok (.invokestatic 37, 3) := by decide +kernel
theorem dP_isNormalLevel_12 : decode cP_isNormalLevel 12 = .ok (.ireturn, 1) := by decide +kernel
theorem dP_withinCapacity_0 : decode cP_withinCapacity 0 = .ok (.iconst 0, 1) := by decide +kernel
theorem dP_withinCapacity_1 : decode cP_withinCapacity 1 = .ok (.iload_n 1, 1) := by decide +kernel
theorem dP_withinCapacity_2 : decode cP_withinCapacity 2 = .ok (.aload_n 0, 1) := by decide +kernel
theorem dP_withinCapacity_3 : decode cP_withinCapacity 3 = .ok (.getfield 7, 3) := by decide +kernel
theorem dP_withinCapacity_6 : decode cP_withinCapacity 6 = .ok (.invokestatic 43, 3) := by decide +kernel
theorem dP_withinCapacity_9 : decode cP_withinCapacity 9 = .ok (.invokestatic 49, 3) := by decide +kernel
theorem dP_withinCapacity_12 : decode cP_withinCapacity 12 = .ok (.ireturn, 1) := by decide +kernel
theorem dP_given_0 : decode cP_given 0 = .ok (.iload_n 1, 1) := by decide +kernel
theorem dP_given_1 : decode cP_given 1 = .ok (.invokestatic 52, 3) := by decide +kernel
theorem dP_given_4 : decode cP_given 4 = .ok (.aload_n 0, 1) := by decide +kernel
theorem dP_given_5 : decode cP_given 5 = .ok (.getfield 34, 3) := by decide +kernel
theorem dP_given_8 : decode cP_given 8 = .ok (.imul, 1) := by decide +kernel
theorem dP_given_9 : decode cP_given 9 = .ok (.ireturn, 1) := by decide +kernel
theorem dR_init_0 : decode cR_init 0 = .ok (.aload_n 0, 1) := by decide +kernel
theorem dR_init_1 : decode cR_init 1 = .ok (.invokespecial 1, 3) := by decide +kernel
theorem dR_init_4 : decode cR_init 4 = .ok (.return_, 1) := by decide +kernel
theorem dR_clear_0 : decode cR_clear 0 = .ok (.aload_n 0, 1) := by decide +kernel
theorem dR_clear_1 : decode cR_clear 1 = .ok (.iconst 0, 1) := by decide +kernel
theorem dR_clear_2 : decode cR_clear 2 = .ok (.putfield 7, 3) := by decide +kernel
theorem dR_clear_5 : decode cR_clear 5 = .ok (.aload_n 0, 1) := by decide +kernel
theorem dR_clear_6 : decode cR_clear 6 = .ok (.iconst 0, 1) := by decide +kernel
theorem dR_clear_7 : decode cR_clear 7 = .ok (.putfield 13, 3) := by decide +kernel
theorem dR_clear_10 : decode cR_clear 10 = .ok (.aload_n 0, 1) := by decide +kernel
theorem dR_clear_11 : decode cR_clear 11 = .ok (.iconst 0, 1) := by decide +kernel
theorem dR_clear_12 : decode cR_clear 12 = .ok (.putfield 16, 3) := by decide +kernel
theorem dR_clear_15 : decode cR_clear 15 = .ok (.aload_n 0, 1) := by decide +kernel
theorem dR_clear_16 : decode cR_clear 16 = .ok (.iconst 0, 1) := by decide +kernel
theorem dR_clear_17 : decode cR_clear 17 = .ok (.putfield 20, 3) := by decide +kernel
theorem dR_clear_20 : decode cR_clear 20 = .ok (.aload_n 0, 1) := by decide +kernel
theorem dR_clear_21 : decode cR_clear 21 = .ok (.iconst 0, 1) := by decide +kernel
theorem dR_clear_22 : decode cR_clear 22 = .ok (.putfield 23, 3) := by decide +kernel
theorem dR_clear_25 : decode cR_clear 25 = .ok (.aload_n 0, 1) := by decide +kernel
theorem dR_clear_26 : decode cR_clear 26 = .ok (.iconst 0, 1) := by decide +kernel
theorem dR_clear_27 : decode cR_clear 27 = .ok (.putfield 26, 3) := by decide +kernel
theorem dR_clear_30 : decode cR_clear 30 = .ok (.aload_n 0, 1) := by decide +kernel
theorem dR_clear_31 : decode cR_clear 31 = .ok (.iconst 0, 1) := by decide +kernel
theorem dR_clear_32 : decode cR_clear 32 = .ok (.putfield 29, 3) := by decide +kernel
theorem dR_clear_35 : decode cR_clear 35 = .ok (.return_, 1) := by decide +kernel
theorem dS_init_0 : decode cS_init 0 = .ok (.aload_n 0, 1) := by decide +kernel
theorem dS_init_1 : decode cS_init 1 = .ok (.invokespecial 1, 3) := by decide +kernel
theorem dS_init_4 : decode cS_init 4 = .ok (.return_, 1) := by decide +kernel
theorem dS_put_0 : decode cS_put 0 = .ok (.aload_n 0, 1) := by decide +kernel
theorem dS_put_1 : decode cS_put 1 = .ok (.iload_n 1, 1) := by decide +kernel
theorem dS_put_2 : decode cS_put 2 = .ok (.putfield 7, 3) := by decide +kernel
theorem dS_put_5 : decode cS_put 5 = .ok (.aload_n 0, 1) := by decide +kernel
theorem dS_put_6 : decode cS_put 6 = .ok (.iload_n 2, 1) := by decide +kernel
theorem dS_put_7 : decode cS_put 7 = .ok (.putfield 13, 3) := by decide +kernel
theorem dS_put_10 : decode cS_put 10 = .ok (.return_, 1) := by decide +kernel
theorem dS_holds_0 : decode cS_holds 0 = .ok (.iload_n 1, 1) := by decide +kernel
theorem dS_holds_1 : decode cS_holds 1 = .ok (.aload_n 0, 1) := by decide +kernel
theorem dS_holds_2 : decode cS_holds 2 = .ok (.getfield 7, 3) := by decide +kernel
theorem dS_holds_5 : decode cS_holds 5 = .ok (.aload_n 0, 1) := by decide +kernel
theorem dS_holds_6 : decode cS_holds 6 = .ok (.getfield 13, 3) := by decide +kernel
theorem dS_holds_9 : decode cS_holds 9 = .ok (.invokestatic 16, 3) := by decide +kernel
theorem dS_holds_12 : decode cS_holds 12 = .ok (.ireturn, 1) := by decide +kernel
theorem dU_init_0 : decode cU_init 0 = .ok (.aload_n 0, 1) := by decide +kernel
theorem dU_init_1 : decode cU_init 1 = .ok (.invokespecial 1, 3) := by decide +kernel
theorem dU_init_4 : decode cU_init 4 = .ok (.return_, 1) := by decide +kernel
theorem dU_hasFailed_0 : decode cU_hasFailed 0 = .ok (.aload_n 0, 1) := by decide +kernel
theorem dU_hasFailed_1 : decode cU_hasFailed 1 = .ok (.getfield 7, 3) := by decide +kernel
theorem dU_hasFailed_4 : decode cU_hasFailed 4 = .ok (.iload_n 1, 1) := by decide +kernel
theorem dU_hasFailed_5 : decode cU_hasFailed 5 = .ok (.invokestatic 13, 3) := by decide +kernel
theorem dU_hasFailed_8 : decode cU_hasFailed 8 = .ok (.ireturn, 1) := by decide +kernel
theorem dU_awaitsAcknowledgement_0 : decode cU_awaitsAcknowledgement 0 = .ok (.aload_n 0, 1) := by decide +kernel
theorem dU_awaitsAcknowledgement_1 : decode cU_awaitsAcknowledgement 1 = .ok (.getfield 7, 3) := by decide +kernel
theorem dU_awaitsAcknowledgement_4 : decode cU_awaitsAcknowledgement 4 = .ok (.aload_n 0, 1) := by decide +kernel
theorem dU_awaitsAcknowledgement_5 : decode cU_awaitsAcknowledgement 5 = .ok (.getfield 19, 3) := by decide +kernel
theorem dU_awaitsAcknowledgement_8 : decode cU_awaitsAcknowledgement 8 = .ok (.iconst (-1), 1) := by decide +kernel
theorem dU_awaitsAcknowledgement_9 : decode cU_awaitsAcknowledgement 9 = .ok (.ixor, 1) := by decide +kernel
theorem dU_awaitsAcknowledgement_10 : decode cU_awaitsAcknowledgement 10 = .ok (.iand, 1) := by decide +kernel
theorem dU_awaitsAcknowledgement_11 : decode cU_awaitsAcknowledgement 11 = .ok (.iload_n 1, 1) := by decide +kernel
theorem dU_awaitsAcknowledgement_12 : decode cU_awaitsAcknowledgement 12 = .ok (.invokestatic 13, 3) := by decide +kernel
theorem dU_awaitsAcknowledgement_15 : decode cU_awaitsAcknowledgement 15 = .ok (.ireturn, 1) := by decide +kernel
theorem dU_fail_0 : decode cU_fail 0 = .ok (.aload_n 0, 1) := by decide +kernel
theorem dU_fail_1 : decode cU_fail 1 = .ok (.aload_n 0, 1) := by decide +kernel
theorem dU_fail_2 : decode cU_fail 2 = .ok (.getfield 7, 3) := by decide +kernel
theorem dU_fail_5 : decode cU_fail 5 = .ok (.iload_n 1, 1) := by decide +kernel
theorem dU_fail_6 : decode cU_fail 6 = .ok (.iconst 1, 1) := by decide +kernel
theorem dU_fail_7 : decode cU_fail 7 = .ok (.invokestatic 22, 3) := by decide +kernel
theorem dU_fail_10 : decode cU_fail 10 = .ok (.putfield 7, 3) := by decide +kernel
theorem dU_fail_13 : decode cU_fail 13 = .ok (.return_, 1) := by decide +kernel
theorem dU_acknowledge_0 : decode cU_acknowledge 0 = .ok (.aload_n 0, 1) := by decide +kernel
theorem dU_acknowledge_1 : decode cU_acknowledge 1 = .ok (.aload_n 0, 1) := by decide +kernel
theorem dU_acknowledge_2 : decode cU_acknowledge 2 = .ok (.getfield 19, 3) := by decide +kernel
theorem dU_acknowledge_5 : decode cU_acknowledge 5 = .ok (.iload_n 1, 1) := by decide +kernel
theorem dU_acknowledge_6 : decode cU_acknowledge 6 = .ok (.iconst 1, 1) := by decide +kernel
theorem dU_acknowledge_7 : decode cU_acknowledge 7 = .ok (.invokestatic 22, 3) := by decide +kernel
theorem dU_acknowledge_10 : decode cU_acknowledge 10 = .ok (.putfield 19, 3) := by decide +kernel
theorem dU_acknowledge_13 : decode cU_acknowledge 13 = .ok (.return_, 1) := by decide +kernel
theorem dU_repair_0 : decode cU_repair 0 = .ok (.aload_n 0, 1) := by decide +kernel
theorem dU_repair_1 : decode cU_repair 1 = .ok (.aload_n 0, 1) := by decide +kernel
theorem dU_repair_2 : decode cU_repair 2 = .ok (.getfield 7, 3) := by decide +kernel
theorem dU_repair_5 : decode cU_repair 5 = .ok (.iload_n 1, 1) := by decide +kernel
theorem dU_repair_6 : decode cU_repair 6 = .ok (.iconst 0, 1) := by decide +kernel
theorem dU_repair_7 : decode cU_repair 7 = .ok (.invokestatic 22, 3) := by decide +kernel
theorem dU_repair_10 : decode cU_repair 10 = .ok (.putfield 7, 3) := by decide +kernel
theorem dU_repair_13 : decode cU_repair 13 = .ok (.aload_n 0, 1) := by decide +kernel
theorem dU_repair_14 : decode cU_repair 14 = .ok (.aload_n 0, 1) := by decide +kernel
theorem dU_repair_15 : decode cU_repair 15 = .ok (.getfield 19, 3) := by decide +kernel
theorem dU_repair_18 : decode cU_repair 18 = .ok (.iload_n 1, 1) := by decide +kernel
theorem dU_repair_19 : decode cU_repair 19 = .ok (.iconst 0, 1) := by decide +kernel
theorem dU_repair_20 : decode cU_repair 20 = .ok (.invokestatic 22, 3) := by decide +kernel
theorem dU_repair_23 : decode cU_repair 23 = .ok (.putfield 19, 3) := by decide +kernel
theorem dU_repair_26 : decode cU_repair 26 = .ok (.return_, 1) := by decide +kernel
theorem dU_clear_0 : decode cU_clear 0 = .ok (.aload_n 0, 1) := by decide +kernel
theorem dU_clear_1 : decode cU_clear 1 = .ok (.iconst 0, 1) := by decide +kernel
theorem dU_clear_2 : decode cU_clear 2 = .ok (.putfield 7, 3) := by decide +kernel
theorem dU_clear_5 : decode cU_clear 5 = .ok (.aload_n 0, 1) := by decide +kernel
theorem dU_clear_6 : decode cU_clear 6 = .ok (.iconst 0, 1) := by decide +kernel
theorem dU_clear_7 : decode cU_clear 7 = .ok (.putfield 19, 3) := by decide +kernel
theorem dU_clear_10 : decode cU_clear 10 = .ok (.return_, 1) := by decide +kernel
theorem dL_begin_0 : decode cL_begin 0 = .ok (.aload_n 0, 1) := by decide +kernel
theorem dL_begin_1 : decode cL_begin 1 = .ok (.iload_n 1, 1) := by decide +kernel
theorem dL_begin_2 : decode cL_begin 2 = .ok (.iload_n 2, 1) := by decide +kernel
theorem dL_begin_3 : decode cL_begin 3 = .ok (.iload_n 3, 1) := by decide +kernel
theorem dL_begin_4 : decode cL_begin 4 = .ok (.iload 4, 2) := by decide +kernel
theorem dL_begin_6 : decode cL_begin 6 = .ok (.iload 5, 2) := by decide +kernel
theorem dL_begin_8 : decode cL_begin 8 = .ok (.iload 6, 2) := by decide +kernel
theorem dL_begin_10 : decode cL_begin 10 = .ok (.iload 7, 2) := by decide +kernel
theorem dL_begin_12 : decode cL_begin 12 = .ok (.iload 8, 2) := by decide +kernel
theorem dL_begin_14 : decode cL_begin 14 = .ok (.iload 9, 2) := by decide +kernel
theorem dL_begin_16 : decode cL_begin 16 = .ok (.invokevirtual 7, 3) := by decide +kernel
theorem dL_begin_19 : decode cL_begin 19 = .ok (.goto 7, 3) := by decide +kernel
theorem dL_begin_22 : decode cL_begin 22 = .ok (.astore 10, 2) := by decide +kernel
theorem dL_begin_24 : decode cL_begin 24 = .ok (.iconst 1, 1) := by decide +kernel
theorem dL_begin_25 : decode cL_begin 25 = .ok (.ireturn, 1) := by decide +kernel
theorem dL_begin_26 : decode cL_begin 26 = .ok (.iconst 0, 1) := by decide +kernel
theorem dL_begin_27 : decode cL_begin 27 = .ok (.ireturn, 1) := by decide +kernel
theorem dL_pump_0 : decode cL_pump 0 = .ok (.aload_n 0, 1) := by decide +kernel
theorem dL_pump_1 : decode cL_pump 1 = .ok (.iload_n 1, 1) := by decide +kernel
theorem dL_pump_2 : decode cL_pump 2 = .ok (.iload_n 2, 1) := by decide +kernel
theorem dL_pump_3 : decode cL_pump 3 = .ok (.iload_n 3, 1) := by decide +kernel
theorem dL_pump_4 : decode cL_pump 4 = .ok (.invokevirtual 15, 3) := by decide +kernel
theorem dL_pump_7 : decode cL_pump 7 = .ok (.goto 7, 3) := by decide +kernel
theorem dL_pump_10 : decode cL_pump 10 = .ok (.astore 4, 2) := by decide +kernel
theorem dL_pump_12 : decode cL_pump 12 = .ok (.iconst 1, 1) := by decide +kernel
theorem dL_pump_13 : decode cL_pump 13 = .ok (.ireturn, 1) := by decide +kernel
theorem dL_pump_14 : decode cL_pump 14 = .ok (.iconst 0, 1) := by decide +kernel
theorem dL_pump_15 : decode cL_pump 15 = .ok (.ireturn, 1) := by decide +kernel
theorem dL_say_0 : decode cL_say 0 = .ok (.aload_n 0, 1) := by decide +kernel
theorem dL_say_1 : decode cL_say 1 = .ok (.iload_n 1, 1) := by decide +kernel
theorem dL_say_2 : decode cL_say 2 = .ok (.invokevirtual 19, 3) := by decide +kernel
theorem dL_say_5 : decode cL_say 5 = .ok (.goto 6, 3) := by decide +kernel
theorem dL_say_8 : decode cL_say 8 = .ok (.astore_n 2, 1) := by decide +kernel
theorem dL_say_9 : decode cL_say 9 = .ok (.iconst 1, 1) := by decide +kernel
theorem dL_say_10 : decode cL_say 10 = .ok (.ireturn, 1) := by decide +kernel
theorem dL_say_11 : decode cL_say 11 = .ok (.iconst 0, 1) := by decide +kernel
theorem dL_say_12 : decode cL_say 12 = .ok (.ireturn, 1) := by decide +kernel
theorem dL_unit_0 : decode cL_unit 0 = .ok (.aload_n 0, 1) := by decide +kernel
theorem dL_unit_1 : decode cL_unit 1 = .ok (.iload_n 1, 1) := by decide +kernel
theorem dL_unit_2 : decode cL_unit 2 = .ok (.iload_n 2, 1) := by decide +kernel
theorem dL_unit_3 : decode cL_unit 3 = .ok (.invokevirtual 23, 3) := by decide +kernel
theorem dL_unit_6 : decode cL_unit 6 = .ok (.goto 6, 3) := by decide +kernel
theorem dL_unit_9 : decode cL_unit 9 = .ok (.astore_n 3, 1) := by decide +kernel
theorem dL_unit_10 : decode cL_unit 10 = .ok (.iconst 1, 1) := by decide +kernel
theorem dL_unit_11 : decode cL_unit 11 = .ok (.ireturn, 1) := by decide +kernel
theorem dL_unit_12 : decode cL_unit 12 = .ok (.iconst 0, 1) := by decide +kernel
theorem dL_unit_13 : decode cL_unit 13 = .ok (.ireturn, 1) := by decide +kernel
theorem dL_cycle_0 : decode cL_cycle 0 = .ok (.aload_n 1, 1) := by decide +kernel
theorem dL_cycle_1 : decode cL_cycle 1 = .ok (.iconst 0, 1) := by decide +kernel
theorem dL_cycle_2 : decode cL_cycle 2 = .ok (.aload_n 0, 1) := by decide +kernel
theorem dL_cycle_3 : decode cL_cycle 3 = .ok (.invokevirtual 27, 3) := by decide +kernel
theorem dL_cycle_6 : decode cL_cycle 6 = .ok (.i2l, 1) := by decide +kernel
theorem dL_cycle_7 : decode cL_cycle 7 = .ok (.lastore, 1) := by decide +kernel
theorem dL_cycle_8 : decode cL_cycle 8 = .ok (.goto 6, 3) := by decide +kernel
theorem dL_cycle_11 : decode cL_cycle 11 = .ok (.astore_n 2, 1) := by decide +kernel
theorem dL_cycle_12 : decode cL_cycle 12 = .ok (.iconst 1, 1) := by decide +kernel
theorem dL_cycle_13 : decode cL_cycle 13 = .ok (.ireturn, 1) := by decide +kernel
theorem dL_cycle_14 : decode cL_cycle 14 = .ok (.iconst 0, 1) := by decide +kernel
theorem dL_cycle_15 : decode cL_cycle 15 = .ok (.ireturn, 1) := by decide +kernel
theorem dL_told_0 : decode cL_told 0 = .ok (.aload_n 2, 1) := by decide +kernel
theorem dL_told_1 : decode cL_told 1 = .ok (.iconst 0, 1) := by decide +kernel
theorem dL_told_2 : decode cL_told 2 = .ok (.aload_n 0, 1) := by decide +kernel
theorem dL_told_3 : decode cL_told 3 = .ok (.iload_n 1, 1) := by decide +kernel
theorem dL_told_4 : decode cL_told 4 = .ok (.invokevirtual 33, 3) := by decide +kernel
theorem dL_told_7 : decode cL_told 7 = .ok (.i2l, 1) := by decide +kernel
theorem dL_told_8 : decode cL_told 8 = .ok (.lastore, 1) := by decide +kernel
theorem dL_told_9 : decode cL_told 9 = .ok (.goto 6, 3) := by decide +kernel
theorem dL_told_12 : decode cL_told 12 = .ok (.astore_n 3, 1) := by decide +kernel
theorem dL_told_13 : decode cL_told 13 = .ok (.iconst 1, 1) := by decide +kernel
theorem dL_told_14 : decode cL_told 14 = .ok (.ireturn, 1) := by decide +kernel
theorem dL_told_15 : decode cL_told 15 = .ok (.iconst 0, 1) := by decide +kernel
theorem dL_told_16 : decode cL_told 16 = .ok (.ireturn, 1) := by decide +kernel
theorem dL_state_0 : decode cL_state 0 = .ok (.aload_n 2, 1) := by decide +kernel
theorem dL_state_1 : decode cL_state 1 = .ok (.iconst 0, 1) := by decide +kernel
theorem dL_state_2 : decode cL_state 2 = .ok (.aload_n 0, 1) := by decide +kernel
theorem dL_state_3 : decode cL_state 3 = .ok (.iload_n 1, 1) := by decide +kernel
theorem dL_state_4 : decode cL_state 4 = .ok (.invokevirtual 37, 3) := by decide +kernel
theorem dL_state_7 : decode cL_state 7 = .ok (.i2l, 1) := by decide +kernel
theorem dL_state_8 : decode cL_state 8 = .ok (.lastore, 1) := by decide +kernel
theorem dL_state_9 : decode cL_state 9 = .ok (.goto 6, 3) := by decide +kernel
theorem dL_state_12 : decode cL_state 12 = .ok (.astore_n 3, 1) := by decide +kernel
