theorem d_M_plan_59 : decode c_M_plan 59 = .ok (.iload_n 1, 1) := by decide +kernel
theorem d_M_plan_60 : decode c_M_plan 60 = .ok (.iconst (-1), 1) := by decide +kernel
theorem d_M_plan_61 : decode c_M_plan 61 = .ok (.iastore, 1) := by decide +kernel
theorem d_M_plan_62 : decode c_M_plan 62 = .ok (.iconst 0, 1) := by decide +kernel
theorem d_M_plan_63 : decode c_M_plan 63 = .ok (.istore_n 3, 1) := by decide +kernel
theorem d_M_plan_64 : decode c_M_plan 64 = .ok (.iload_n 3, 1) := by decide +kernel
theorem d_M_plan_65 : decode c_M_plan 65 = .ok (.iconst 5, 1) := by decide +kernel
theorem d_M_plan_66 : decode c_M_plan 66 = .ok (.if_icmp .ge (16), 3) := by decide +kernel
theorem d_M_plan_69 : decode c_M_plan 69 = .ok (.aload_n 0, 1) := by decide +kernel
theorem d_M_plan_70 : decode c_M_plan 70 = .ok (.getfield 49, 3) := by decide +kernel
theorem d_M_plan_73 : decode c_M_plan 73 = .ok (.iload_n 3, 1) := by decide +kernel
theorem d_M_plan_74 : decode c_M_plan 74 = .ok (.iconst (-1), 1) := by decide +kernel
theorem d_M_plan_75 : decode c_M_plan 75 = .ok (.iastore, 1) := by decide +kernel
theorem d_M_plan_76 : decode c_M_plan 76 = .ok (.iinc 3 (1), 3) := by decide +kernel
theorem d_M_plan_79 : decode c_M_plan 79 = .ok (.goto (-15), 3) := by decide +kernel
theorem d_M_plan_82 : decode c_M_plan 82 = .ok (.aload_n 0, 1) := by decide +kernel
theorem d_M_plan_83 : decode c_M_plan 83 = .ok (.getfield 60, 3) := by decide +kernel
theorem d_M_plan_86 : decode c_M_plan 86 = .ok (.ifCond .le (7), 3) := by decide +kernel
theorem d_M_plan_89 : decode c_M_plan 89 = .ok (.iconst 0, 1) := by decide +kernel
theorem d_M_plan_90 : decode c_M_plan 90 = .ok (.goto (4), 3) := by decide +kernel
theorem d_M_plan_93 : decode c_M_plan 93 = .ok (.iconst (-1), 1) := by decide +kernel
theorem d_M_plan_94 : decode c_M_plan 94 = .ok (.istore_n 3, 1) := by decide +kernel
theorem d_M_plan_95 : decode c_M_plan 95 = .ok (.iload_n 3, 1) := by decide +kernel
theorem d_M_plan_96 : decode c_M_plan 96 = .ok (.ifCond .lt (168), 3) := by decide +kernel
theorem d_M_plan_99 : decode c_M_plan 99 = .ok (.aload_n 0, 1) := by decide +kernel
theorem d_M_plan_100 : decode c_M_plan 100 = .ok (.getfield 105, 3) := by decide +kernel
theorem d_M_plan_103 : decode c_M_plan 103 = .ok (.ifCond .ne (161), 3) := by decide +kernel
theorem d_M_plan_106 : decode c_M_plan 106 = .ok (.aload_n 0, 1) := by decide +kernel
theorem d_M_plan_107 : decode c_M_plan 107 = .ok (.getfield 49, 3) := by decide +kernel
theorem d_M_plan_110 : decode c_M_plan 110 = .ok (.iload_n 3, 1) := by decide +kernel
theorem d_M_plan_111 : decode c_M_plan 111 = .ok (.iaload, 1) := by decide +kernel
theorem d_M_plan_112 : decode c_M_plan 112 = .ok (.aload_n 0, 1) := by decide +kernel
theorem d_M_plan_113 : decode c_M_plan 113 = .ok (.iload_n 3, 1) := by decide +kernel
theorem d_M_plan_114 : decode c_M_plan 114 = .ok (.invokevirtual 111, 3) := by decide +kernel
theorem d_M_plan_117 : decode c_M_plan 117 = .ok (.if_icmp .ne (16), 3) := by decide +kernel
theorem d_M_plan_120 : decode c_M_plan 120 = .ok (.aload_n 0, 1) := by decide +kernel
theorem d_M_plan_121 : decode c_M_plan 121 = .ok (.getfield 49, 3) := by decide +kernel
theorem d_M_plan_124 : decode c_M_plan 124 = .ok (.iload_n 3, 1) := by decide +kernel
theorem d_M_plan_125 : decode c_M_plan 125 = .ok (.iconst (-1), 1) := by decide +kernel
theorem d_M_plan_126 : decode c_M_plan 126 = .ok (.iastore, 1) := by decide +kernel
theorem d_M_plan_127 : decode c_M_plan 127 = .ok (.iinc 3 (-1), 3) := by decide +kernel
theorem d_M_plan_130 : decode c_M_plan 130 = .ok (.goto (-35), 3) := by decide +kernel
theorem d_M_plan_133 : decode c_M_plan 133 = .ok (.aload_n 0, 1) := by decide +kernel
theorem d_M_plan_134 : decode c_M_plan 134 = .ok (.getfield 108, 3) := by decide +kernel
theorem d_M_plan_137 : decode c_M_plan 137 = .ok (.iload_n 2, 1) := by decide +kernel
theorem d_M_plan_138 : decode c_M_plan 138 = .ok (.if_icmp .ne (11), 3) := by decide +kernel
theorem d_M_plan_141 : decode c_M_plan 141 = .ok (.aload_n 0, 1) := by decide +kernel
theorem d_M_plan_142 : decode c_M_plan 142 = .ok (.iconst 1, 1) := by decide +kernel
theorem d_M_plan_143 : decode c_M_plan 143 = .ok (.putfield 105, 3) := by decide +kernel
theorem d_M_plan_146 : decode c_M_plan 146 = .ok (.goto (-51), 3) := by decide +kernel
theorem d_M_plan_149 : decode c_M_plan 149 = .ok (.aload_n 0, 1) := by decide +kernel
theorem d_M_plan_150 : decode c_M_plan 150 = .ok (.getfield 49, 3) := by decide +kernel
theorem d_M_plan_153 : decode c_M_plan 153 = .ok (.iload_n 3, 1) := by decide +kernel
theorem d_M_plan_154 : decode c_M_plan 154 = .ok (.dup2, 1) := by decide +kernel
theorem d_M_plan_155 : decode c_M_plan 155 = .ok (.iaload, 1) := by decide +kernel
theorem d_M_plan_156 : decode c_M_plan 156 = .ok (.iconst 1, 1) := by decide +kernel
theorem d_M_plan_157 : decode c_M_plan 157 = .ok (.iadd, 1) := by decide +kernel
theorem d_M_plan_158 : decode c_M_plan 158 = .ok (.iastore, 1) := by decide +kernel
theorem d_M_plan_159 : decode c_M_plan 159 = .ok (.aload_n 0, 1) := by decide +kernel
theorem d_M_plan_160 : decode c_M_plan 160 = .ok (.dup, 1) := by decide +kernel
theorem d_M_plan_161 : decode c_M_plan 161 = .ok (.getfield 108, 3) := by decide +kernel
theorem d_M_plan_164 : decode c_M_plan 164 = .ok (.iconst 1, 1) := by decide +kernel
theorem d_M_plan_165 : decode c_M_plan 165 = .ok (.iadd, 1) := by decide +kernel
theorem d_M_plan_166 : decode c_M_plan 166 = .ok (.putfield 108, 3) := by decide +kernel
theorem d_M_plan_169 : decode c_M_plan 169 = .ok (.aload_n 0, 1) := by decide +kernel
theorem d_M_plan_170 : decode c_M_plan 170 = .ok (.getfield 43, 3) := by decide +kernel
theorem d_M_plan_173 : decode c_M_plan 173 = .ok (.iload_n 1, 1) := by decide +kernel
theorem d_M_plan_174 : decode c_M_plan 174 = .ok (.iaload, 1) := by decide +kernel
theorem d_M_plan_175 : decode c_M_plan 175 = .ok (.ifCond .lt (18), 3) := by decide +kernel
theorem d_M_plan_178 : decode c_M_plan 178 = .ok (.aload_n 0, 1) := by decide +kernel
theorem d_M_plan_179 : decode c_M_plan 179 = .ok (.iload_n 3, 1) := by decide +kernel
theorem d_M_plan_180 : decode c_M_plan 180 = .ok (.iconst 1, 1) := by decide +kernel
theorem d_M_plan_181 : decode c_M_plan 181 = .ok (.invokevirtual 97, 3) := by decide +kernel
theorem d_M_plan_184 : decode c_M_plan 184 = .ok (.aload_n 0, 1) := by decide +kernel
theorem d_M_plan_185 : decode c_M_plan 185 = .ok (.getfield 43, 3) := by decide +kernel
theorem d_M_plan_188 : decode c_M_plan 188 = .ok (.iload_n 1, 1) := by decide +kernel
theorem d_M_plan_189 : decode c_M_plan 189 = .ok (.iaload, 1) := by decide +kernel
theorem d_M_plan_190 : decode c_M_plan 190 = .ok (.if_icmp .ge (18), 3) := by decide +kernel
theorem d_M_plan_193 : decode c_M_plan 193 = .ok (.aload_n 0, 1) := by decide +kernel
theorem d_M_plan_194 : decode c_M_plan 194 = .ok (.iload_n 3, 1) := by decide +kernel
theorem d_M_plan_195 : decode c_M_plan 195 = .ok (.iconst 0, 1) := by decide +kernel
theorem d_M_plan_196 : decode c_M_plan 196 = .ok (.invokevirtual 97, 3) := by decide +kernel
theorem d_M_plan_199 : decode c_M_plan 199 = .ok (.aload_n 0, 1) := by decide +kernel
theorem d_M_plan_200 : decode c_M_plan 200 = .ok (.getfield 31, 3) := by decide +kernel
theorem d_M_plan_203 : decode c_M_plan 203 = .ok (.iload_n 1, 1) := by decide +kernel
theorem d_M_plan_204 : decode c_M_plan 204 = .ok (.iaload, 1) := by decide +kernel
theorem d_M_plan_205 : decode c_M_plan 205 = .ok (.if_icmp .le (7), 3) := by decide +kernel
theorem d_M_plan_208 : decode c_M_plan 208 = .ok (.iconst 1, 1) := by decide +kernel
theorem d_M_plan_209 : decode c_M_plan 209 = .ok (.goto (4), 3) := by decide +kernel
theorem d_M_plan_212 : decode c_M_plan 212 = .ok (.iconst 0, 1) := by decide +kernel
theorem d_M_plan_213 : decode c_M_plan 213 = .ok (.istore 4, 2) := by decide +kernel
theorem d_M_plan_215 : decode c_M_plan 215 = .ok (.iload 4, 2) := by decide +kernel
theorem d_M_plan_217 : decode c_M_plan 217 = .ok (.ifCond .ne (26), 3) := by decide +kernel
theorem d_M_plan_220 : decode c_M_plan 220 = .ok (.iload_n 3, 1) := by decide +kernel
theorem d_M_plan_221 : decode c_M_plan 221 = .ok (.aload_n 0, 1) := by decide +kernel
theorem d_M_plan_222 : decode c_M_plan 222 = .ok (.getfield 60, 3) := by decide +kernel
theorem d_M_plan_225 : decode c_M_plan 225 = .ok (.iconst 1, 1) := by decide +kernel
theorem d_M_plan_226 : decode c_M_plan 226 = .ok (.isub, 1) := by decide +kernel
theorem d_M_plan_227 : decode c_M_plan 227 = .ok (.if_icmp .ne (16), 3) := by decide +kernel
theorem d_M_plan_230 : decode c_M_plan 230 = .ok (.aload_n 0, 1) := by decide +kernel
theorem d_M_plan_231 : decode c_M_plan 231 = .ok (.iload_n 1, 1) := by decide +kernel
theorem d_M_plan_232 : decode c_M_plan 232 = .ok (.invokevirtual 115, 3) := by decide +kernel
theorem d_M_plan_235 : decode c_M_plan 235 = .ok (.ifCond .ne (8), 3) := by decide +kernel
theorem d_M_plan_238 : decode c_M_plan 238 = .ok (.aload_n 0, 1) := by decide +kernel
theorem d_M_plan_239 : decode c_M_plan 239 = .ok (.iload_n 1, 1) := by decide +kernel
theorem d_M_plan_240 : decode c_M_plan 240 = .ok (.invokevirtual 118, 3) := by decide +kernel
theorem d_M_plan_243 : decode c_M_plan 243 = .ok (.iload 4, 2) := by decide +kernel
theorem d_M_plan_245 : decode c_M_plan 245 = .ok (.ifCond .ne (16), 3) := by decide +kernel
theorem d_M_plan_248 : decode c_M_plan 248 = .ok (.iload_n 3, 1) := by decide +kernel
theorem d_M_plan_249 : decode c_M_plan 249 = .ok (.aload_n 0, 1) := by decide +kernel
theorem d_M_plan_250 : decode c_M_plan 250 = .ok (.getfield 60, 3) := by decide +kernel
theorem d_M_plan_253 : decode c_M_plan 253 = .ok (.iconst 1, 1) := by decide +kernel
theorem d_M_plan_254 : decode c_M_plan 254 = .ok (.isub, 1) := by decide +kernel
theorem d_M_plan_255 : decode c_M_plan 255 = .ok (.if_icmp .ge (6), 3) := by decide +kernel
theorem d_M_plan_258 : decode c_M_plan 258 = .ok (.iinc 3 (1), 3) := by decide +kernel
theorem d_M_plan_261 : decode c_M_plan 261 = .ok (.goto (-166), 3) := by decide +kernel
theorem d_M_plan_264 : decode c_M_plan 264 = .ok (.aload_n 0, 1) := by decide +kernel
theorem d_M_plan_265 : decode c_M_plan 265 = .ok (.getfield 43, 3) := by decide +kernel
theorem d_M_plan_268 : decode c_M_plan 268 = .ok (.iload_n 1, 1) := by decide +kernel
theorem d_M_plan_269 : decode c_M_plan 269 = .ok (.iaload, 1) := by decide +kernel
theorem d_M_plan_270 : decode c_M_plan 270 = .ok (.ireturn, 1) := by decide +kernel
theorem d_M_planned_0 : decode c_M_planned 0 = .ok (.aload_n 0, 1) := by decide +kernel
theorem d_M_planned_1 : decode c_M_planned 1 = .ok (.iload_n 1, 1) := by decide +kernel
theorem d_M_planned_2 : decode c_M_planned 2 = .ok (.i2l, 1) := by decide +kernel
theorem d_M_planned_3 : decode c_M_planned 3 = .ok (.lconst 0, 1) := by decide +kernel
theorem d_M_planned_4 : decode c_M_planned 4 = .ok (.lconst 1, 1) := by decide +kernel
theorem d_M_planned_5 : decode c_M_planned 5 = .ok (.invokestatic 63, 3) := by decide +kernel
theorem d_M_planned_8 : decode c_M_planned 8 = .ok (.ifCond .ne (7), 3) := by decide +kernel
theorem d_M_planned_11 : decode c_M_planned 11 = .ok (.iconst 1, 1) := by decide +kernel
theorem d_M_planned_12 : decode c_M_planned 12 = .ok (.goto (4), 3) := by decide +kernel
theorem d_M_planned_15 : decode c_M_planned 15 = .ok (.iconst 0, 1) := by decide +kernel
theorem d_M_planned_16 : decode c_M_planned 16 = .ok (.aload_n 0, 1) := by decide +kernel
theorem d_M_planned_17 : decode c_M_planned 17 = .ok (.getfield 101, 3) := by decide +kernel
theorem d_M_planned_20 : decode c_M_planned 20 = .ok (.ifCond .ne (7), 3) := by decide +kernel
theorem d_M_planned_23 : decode c_M_planned 23 = .ok (.iconst 1, 1) := by decide +kernel
theorem d_M_planned_24 : decode c_M_planned 24 = .ok (.goto (4), 3) := by decide +kernel
theorem d_M_planned_27 : decode c_M_planned 27 = .ok (.iconst 0, 1) := by decide +kernel
theorem d_M_planned_28 : decode c_M_planned 28 = .ok (.iconst 0, 1) := by decide +kernel
theorem d_M_planned_29 : decode c_M_planned 29 = .ok (.invokevirtual 76, 3) := by decide +kernel
theorem d_M_planned_32 : decode c_M_planned 32 = .ok (.ifCond .eq (5), 3) := by decide +kernel
theorem d_M_planned_35 : decode c_M_planned 35 = .ok (.iconst 0, 1) := by decide +kernel
theorem d_M_planned_36 : decode c_M_planned 36 = .ok (.ireturn, 1) := by decide +kernel
theorem d_M_planned_37 : decode c_M_planned 37 = .ok (.iload_n 1, 1) := by decide +kernel
theorem d_M_planned_38 : decode c_M_planned 38 = .ok (.iconst 1, 1) := by decide +kernel
theorem d_M_planned_39 : decode c_M_planned 39 = .ok (.if_icmp .ne (10), 3) := by decide +kernel
theorem d_M_planned_42 : decode c_M_planned 42 = .ok (.aload_n 0, 1) := by decide +kernel
theorem d_M_planned_43 : decode c_M_planned 43 = .ok (.getfield 108, 3) := by decide +kernel
theorem d_M_planned_46 : decode c_M_planned 46 = .ok (.goto (15), 3) := by decide +kernel
theorem d_M_planned_49 : decode c_M_planned 49 = .ok (.aload_n 0, 1) := by decide +kernel
theorem d_M_planned_50 : decode c_M_planned 50 = .ok (.getfield 105, 3) := by decide +kernel
theorem d_M_planned_53 : decode c_M_planned 53 = .ok (.ifCond .eq (7), 3) := by decide +kernel
theorem d_M_planned_56 : decode c_M_planned 56 = .ok (.iconst 1, 1) := by decide +kernel
theorem d_M_planned_57 : decode c_M_planned 57 = .ok (.goto (4), 3) := by decide +kernel
theorem d_M_planned_60 : decode c_M_planned 60 = .ok (.iconst 0, 1) := by decide +kernel
theorem d_M_planned_61 : decode c_M_planned 61 = .ok (.ireturn, 1) := by decide +kernel
theorem d_M_hasPlan_0 : decode c_M_hasPlan 0 = .ok (.aload_n 0, 1) := by decide +kernel
theorem d_M_hasPlan_1 : decode c_M_hasPlan 1 = .ok (.iload_n 1, 1) := by decide +kernel
theorem d_M_hasPlan_2 : decode c_M_hasPlan 2 = .ok (.invokevirtual 92, 3) := by decide +kernel
theorem d_M_hasPlan_5 : decode c_M_hasPlan 5 = .ok (.ifCond .eq (16), 3) := by decide +kernel
theorem d_M_hasPlan_8 : decode c_M_hasPlan 8 = .ok (.aload_n 0, 1) := by decide +kernel
theorem d_M_hasPlan_9 : decode c_M_hasPlan 9 = .ok (.getfield 43, 3) := by decide +kernel
theorem d_M_hasPlan_12 : decode c_M_hasPlan 12 = .ok (.iload_n 1, 1) := by decide +kernel
theorem d_M_hasPlan_13 : decode c_M_hasPlan 13 = .ok (.iaload, 1) := by decide +kernel
theorem d_M_hasPlan_14 : decode c_M_hasPlan 14 = .ok (.ifCond .lt (7), 3) := by decide +kernel
theorem d_M_hasPlan_17 : decode c_M_hasPlan 17 = .ok (.iconst 1, 1) := by decide +kernel
theorem d_M_hasPlan_18 : decode c_M_hasPlan 18 = .ok (.goto (4), 3) := by decide +kernel
theorem d_M_hasPlan_21 : decode c_M_hasPlan 21 = .ok (.iconst 0, 1) := by decide +kernel
theorem d_M_hasPlan_22 : decode c_M_hasPlan 22 = .ok (.ireturn, 1) := by decide +kernel
theorem d_M_amount_0 : decode c_M_amount 0 = .ok (.aload_n 0, 1) := by decide +kernel
theorem d_M_amount_1 : decode c_M_amount 1 = .ok (.aload_n 0, 1) := by decide +kernel
theorem d_M_amount_2 : decode c_M_amount 2 = .ok (.iload_n 1, 1) := by decide +kernel
theorem d_M_amount_3 : decode c_M_amount 3 = .ok (.invokevirtual 92, 3) := by decide +kernel
theorem d_M_amount_6 : decode c_M_amount 6 = .ok (.ifCond .eq (11), 3) := by decide +kernel
theorem d_M_amount_9 : decode c_M_amount 9 = .ok (.aload_n 0, 1) := by decide +kernel
theorem d_M_amount_10 : decode c_M_amount 10 = .ok (.iload_n 2, 1) := by decide +kernel
theorem d_M_amount_11 : decode c_M_amount 11 = .ok (.invokevirtual 82, 3) := by decide +kernel
theorem d_M_amount_14 : decode c_M_amount 14 = .ok (.ifCond .ne (7), 3) := by decide +kernel
theorem d_M_amount_17 : decode c_M_amount 17 = .ok (.iconst 1, 1) := by decide +kernel
theorem d_M_amount_18 : decode c_M_amount 18 = .ok (.goto (4), 3) := by decide +kernel
theorem d_M_amount_21 : decode c_M_amount 21 = .ok (.iconst 0, 1) := by decide +kernel
theorem d_M_amount_22 : decode c_M_amount 22 = .ok (.aload_n 0, 1) := by decide +kernel
theorem d_M_amount_23 : decode c_M_amount 23 = .ok (.iload_n 1, 1) := by decide +kernel
theorem d_M_amount_24 : decode c_M_amount 24 = .ok (.invokevirtual 122, 3) := by decide +kernel
theorem d_M_amount_27 : decode c_M_amount 27 = .ok (.ifCond .ne (7), 3) := by decide +kernel
theorem d_M_amount_30 : decode c_M_amount 30 = .ok (.iconst 1, 1) := by decide +kernel
theorem d_M_amount_31 : decode c_M_amount 31 = .ok (.goto (4), 3) := by decide +kernel
theorem d_M_amount_34 : decode c_M_amount 34 = .ok (.iconst 0, 1) := by decide +kernel
theorem d_M_amount_35 : decode c_M_amount 35 = .ok (.iconst 0, 1) := by decide +kernel
theorem d_M_amount_36 : decode c_M_amount 36 = .ok (.invokevirtual 76, 3) := by decide +kernel
theorem d_M_amount_39 : decode c_M_amount 39 = .ok (.ifCond .eq (5), 3) := by decide +kernel
theorem d_M_amount_42 : decode c_M_amount 42 = .ok (.iconst 0, 1) := by decide +kernel
theorem d_M_amount_43 : decode c_M_amount 43 = .ok (.ireturn, 1) := by decide +kernel
theorem d_M_amount_44 : decode c_M_amount 44 = .ok (.aload_n 0, 1) := by decide +kernel
theorem d_M_amount_45 : decode c_M_amount 45 = .ok (.getfield 46, 3) := by decide +kernel
theorem d_M_amount_48 : decode c_M_amount 48 = .ok (.iconst 5, 1) := by decide +kernel
theorem d_M_amount_49 : decode c_M_amount 49 = .ok (.iload_n 1, 1) := by decide +kernel
theorem d_M_amount_50 : decode c_M_amount 50 = .ok (.imul, 1) := by decide +kernel
theorem d_M_amount_51 : decode c_M_amount 51 = .ok (.iload_n 2, 1) := by decide +kernel
theorem d_M_amount_52 : decode c_M_amount 52 = .ok (.iadd, 1) := by decide +kernel
theorem d_M_amount_53 : decode c_M_amount 53 = .ok (.iaload, 1) := by decide +kernel
theorem d_M_amount_54 : decode c_M_amount 54 = .ok (.ireturn, 1) := by decide +kernel
theorem d_M_common_0 : decode c_M_common 0 = .ok (.lload_n 0, 1) := by decide +kernel
theorem d_M_common_1 : decode c_M_common 1 = .ok (.lstore 4, 2) := by decide +kernel
theorem d_M_common_3 : decode c_M_common 3 = .ok (.lload_n 2, 1) := by decide +kernel
theorem d_M_common_4 : decode c_M_common 4 = .ok (.lstore 6, 2) := by decide +kernel
theorem d_M_common_6 : decode c_M_common 6 = .ok (.lload 6, 2) := by decide +kernel
theorem d_M_common_8 : decode c_M_common 8 = .ok (.lconst 0, 1) := by decide +kernel
theorem d_M_common_9 : decode c_M_common 9 = .ok (.lcmp, 1) := by decide +kernel
theorem d_M_common_10 : decode c_M_common 10 = .ok (.ifCond .le (21), 3) := by decide +kernel
theorem d_M_common_13 : decode c_M_common 13 = .ok (.lload 4, 2) := by decide +kernel
theorem d_M_common_15 : decode c_M_common 15 = .ok (.lload 6, 2) := by decide +kernel
theorem d_M_common_17 : decode c_M_common 17 = .ok (.lrem, 1) := by decide +kernel
theorem d_M_common_18 : decode c_M_common 18 = .ok (.lstore 8, 2) := by decide +kernel
theorem d_M_common_20 : decode c_M_common 20 = .ok (.lload 6, 2) := by decide +kernel
theorem d_M_common_22 : decode c_M_common 22 = .ok (.lstore 4, 2) := by decide +kernel
theorem d_M_common_24 : decode c_M_common 24 = .ok (.lload 8, 2) := by decide +kernel
theorem d_M_common_26 : decode c_M_common 26 = .ok (.lstore 6, 2) := by decide +kernel
theorem d_M_common_28 : decode c_M_common 28 = .ok (.goto (-22), 3) := by decide +kernel
theorem d_M_common_31 : decode c_M_common 31 = .ok (.lload 4, 2) := by decide +kernel
theorem d_M_common_33 : decode c_M_common 33 = .ok (.lreturn, 1) := by decide +kernel
theorem d_M_worst_0 : decode c_M_worst 0 = .ok (.aload_n 0, 1) := by decide +kernel
theorem d_M_worst_1 : decode c_M_worst 1 = .ok (.iload_n 1, 1) := by decide +kernel
theorem d_M_worst_2 : decode c_M_worst 2 = .ok (.invokevirtual 92, 3) := by decide +kernel
theorem d_M_worst_5 : decode c_M_worst 5 = .ok (.ifCond .eq (36), 3) := by decide +kernel
theorem d_M_worst_8 : decode c_M_worst 8 = .ok (.iload_n 2, 1) := by decide +kernel
theorem d_M_worst_9 : decode c_M_worst 9 = .ok (.i2l, 1) := by decide +kernel
theorem d_M_worst_10 : decode c_M_worst 10 = .ok (.lconst 0, 1) := by decide +kernel
theorem d_M_worst_11 : decode c_M_worst 11 = .ok (.ldc2_w 86, 3) := by decide +kernel
theorem d_M_worst_14 : decode c_M_worst 14 = .ok (.invokestatic 63, 3) := by decide +kernel
theorem d_M_worst_17 : decode c_M_worst 17 = .ok (.ifCond .eq (24), 3) := by decide +kernel
theorem d_M_worst_20 : decode c_M_worst 20 = .ok (.iload_n 3, 1) := by decide +kernel
theorem d_M_worst_21 : decode c_M_worst 21 = .ok (.i2l, 1) := by decide +kernel
theorem d_M_worst_22 : decode c_M_worst 22 = .ok (.lconst 0, 1) := by decide +kernel
theorem d_M_worst_23 : decode c_M_worst 23 = .ok (.lconst 1, 1) := by decide +kernel
theorem d_M_worst_24 : decode c_M_worst 24 = .ok (.invokestatic 63, 3) := by decide +kernel
theorem d_M_worst_27 : decode c_M_worst 27 = .ok (.ifCond .eq (14), 3) := by decide +kernel
theorem d_M_worst_30 : decode c_M_worst 30 = .ok (.iload 4, 2) := by decide +kernel
theorem d_M_worst_32 : decode c_M_worst 32 = .ok (.i2l, 1) := by decide +kernel
theorem d_M_worst_33 : decode c_M_worst 33 = .ok (.lconst 0, 1) := by decide +kernel
theorem d_M_worst_34 : decode c_M_worst 34 = .ok (.lconst 1, 1) := by decide +kernel
theorem d_M_worst_35 : decode c_M_worst 35 = .ok (.invokestatic 63, 3) := by decide +kernel
theorem d_M_worst_38 : decode c_M_worst 38 = .ok (.ifCond .ne (7), 3) := by decide +kernel
theorem d_M_worst_41 : decode c_M_worst 41 = .ok (.iconst 1, 1) := by decide +kernel
theorem d_M_worst_42 : decode c_M_worst 42 = .ok (.goto (4), 3) := by decide +kernel
theorem d_M_worst_45 : decode c_M_worst 45 = .ok (.iconst 0, 1) := by decide +kernel
theorem d_M_worst_46 : decode c_M_worst 46 = .ok (.istore 5, 2) := by decide +kernel
theorem d_M_worst_48 : decode c_M_worst 48 = .ok (.lconst 0, 1) := by decide +kernel
theorem d_M_worst_49 : decode c_M_worst 49 = .ok (.lstore 6, 2) := by decide +kernel
theorem d_M_worst_51 : decode c_M_worst 51 = .ok (.lconst 0, 1) := by decide +kernel
theorem d_M_worst_52 : decode c_M_worst 52 = .ok (.lstore 8, 2) := by decide +kernel
theorem d_M_worst_54 : decode c_M_worst 54 = .ok (.iconst 0, 1) := by decide +kernel
theorem d_M_worst_55 : decode c_M_worst 55 = .ok (.istore 10, 2) := by decide +kernel
theorem d_M_worst_57 : decode c_M_worst 57 = .ok (.iload 5, 2) := by decide +kernel
theorem d_M_worst_59 : decode c_M_worst 59 = .ok (.ifCond .ne (86), 3) := by decide +kernel
theorem d_M_worst_62 : decode c_M_worst 62 = .ok (.iload 10, 2) := by decide +kernel
theorem d_M_worst_64 : decode c_M_worst 64 = .ok (.aload_n 0, 1) := by decide +kernel
theorem d_M_worst_65 : decode c_M_worst 65 = .ok (.getfield 60, 3) := by decide +kernel
theorem d_M_worst_68 : decode c_M_worst 68 = .ok (.if_icmp .ge (77), 3) := by decide +kernel
theorem d_M_worst_71 : decode c_M_worst 71 = .ok (.aload_n 0, 1) := by decide +kernel
theorem d_M_worst_72 : decode c_M_worst 72 = .ok (.getfield 46, 3) := by decide +kernel
theorem d_M_worst_75 : decode c_M_worst 75 = .ok (.iconst 5, 1) := by decide +kernel
theorem d_M_worst_76 : decode c_M_worst 76 = .ok (.iload_n 1, 1) := by decide +kernel
theorem d_M_worst_77 : decode c_M_worst 77 = .ok (.imul, 1) := by decide +kernel
theorem d_M_worst_78 : decode c_M_worst 78 = .ok (.iload 10, 2) := by decide +kernel
theorem d_M_worst_80 : decode c_M_worst 80 = .ok (.iadd, 1) := by decide +kernel
theorem d_M_worst_81 : decode c_M_worst 81 = .ok (.iaload, 1) := by decide +kernel
theorem d_M_worst_82 : decode c_M_worst 82 = .ok (.i2l, 1) := by decide +kernel
theorem d_M_worst_83 : decode c_M_worst 83 = .ok (.aload_n 0, 1) := by decide +kernel
theorem d_M_worst_84 : decode c_M_worst 84 = .ok (.getfield 7, 3) := by decide +kernel
theorem d_M_worst_87 : decode c_M_worst 87 = .ok (.iload 10, 2) := by decide +kernel
theorem d_M_worst_89 : decode c_M_worst 89 = .ok (.iaload, 1) := by decide +kernel
theorem d_M_worst_90 : decode c_M_worst 90 = .ok (.i2l, 1) := by decide +kernel
theorem d_M_worst_91 : decode c_M_worst 91 = .ok (.lmul, 1) := by decide +kernel
theorem d_M_worst_92 : decode c_M_worst 92 = .ok (.lstore 11, 2) := by decide +kernel
theorem d_M_worst_94 : decode c_M_worst 94 = .ok (.lload 6, 2) := by decide +kernel
theorem d_M_worst_96 : decode c_M_worst 96 = .ok (.lload 11, 2) := by decide +kernel
theorem d_M_worst_98 : decode c_M_worst 98 = .ok (.iload_n 3, 1) := by decide +kernel
theorem d_M_worst_99 : decode c_M_worst 99 = .ok (.ifCond .ne (17), 3) := by decide +kernel
theorem d_M_worst_102 : decode c_M_worst 102 = .ok (.aload_n 0, 1) := by decide +kernel
theorem d_M_worst_103 : decode c_M_worst 103 = .ok (.getfield 22, 3) := by decide +kernel
theorem d_M_worst_106 : decode c_M_worst 106 = .ok (.iconst 4, 1) := by decide +kernel
theorem d_M_worst_107 : decode c_M_worst 107 = .ok (.iload 10, 2) := by decide +kernel
theorem d_M_worst_109 : decode c_M_worst 109 = .ok (.imul, 1) := by decide +kernel
theorem d_M_worst_110 : decode c_M_worst 110 = .ok (.iload_n 2, 1) := by decide +kernel
theorem d_M_worst_111 : decode c_M_worst 111 = .ok (.iadd, 1) := by decide +kernel
theorem d_M_worst_112 : decode c_M_worst 112 = .ok (.iaload, 1) := by decide +kernel
theorem d_M_worst_113 : decode c_M_worst 113 = .ok (.goto (14), 3) := by decide +kernel
theorem d_M_worst_116 : decode c_M_worst 116 = .ok (.aload_n 0, 1) := by decide +kernel
theorem d_M_worst_117 : decode c_M_worst 117 = .ok (.getfield 25, 3) := by decide +kernel
theorem d_M_worst_120 : decode c_M_worst 120 = .ok (.iconst 4, 1) := by decide +kernel
theorem d_M_worst_121 : decode c_M_worst 121 = .ok (.iload 10, 2) := by decide +kernel
theorem d_M_worst_123 : decode c_M_worst 123 = .ok (.imul, 1) := by decide +kernel
theorem d_M_worst_124 : decode c_M_worst 124 = .ok (.iload_n 2, 1) := by decide +kernel
theorem d_M_worst_125 : decode c_M_worst 125 = .ok (.iadd, 1) := by decide +kernel
theorem d_M_worst_126 : decode c_M_worst 126 = .ok (.iaload, 1) := by decide +kernel
theorem d_M_worst_127 : decode c_M_worst 127 = .ok (.i2l, 1) := by decide +kernel
theorem d_M_worst_128 : decode c_M_worst 128 = .ok (.lmul, 1) := by decide +kernel
theorem d_M_worst_129 : decode c_M_worst 129 = .ok (.ladd, 1) := by decide +kernel
theorem d_M_worst_130 : decode c_M_worst 130 = .ok (.lstore 6, 2) := by decide +kernel
theorem d_M_worst_132 : decode c_M_worst 132 = .ok (.lload 8, 2) := by decide +kernel
theorem d_M_worst_134 : decode c_M_worst 134 = .ok (.lload 11, 2) := by decide +kernel
theorem d_M_worst_136 : decode c_M_worst 136 = .ok (.ladd, 1) := by decide +kernel
theorem d_M_worst_137 : decode c_M_worst 137 = .ok (.lstore 8, 2) := by decide +kernel
theorem d_M_worst_139 : decode c_M_worst 139 = .ok (.iinc 10 (1), 3) := by decide +kernel
theorem d_M_worst_142 : decode c_M_worst 142 = .ok (.goto (-85), 3) := by decide +kernel
theorem d_M_worst_145 : decode c_M_worst 145 = .ok (.aload_n 0, 1) := by decide +kernel
theorem d_M_worst_146 : decode c_M_worst 146 = .ok (.iload 5, 2) := by decide +kernel
theorem d_M_worst_148 : decode c_M_worst 148 = .ok (.aload_n 0, 1) := by decide +kernel
theorem d_M_worst_149 : decode c_M_worst 149 = .ok (.iload_n 1, 1) := by decide +kernel
theorem d_M_worst_150 : decode c_M_worst 150 = .ok (.invokevirtual 122, 3) := by decide +kernel
theorem d_M_worst_153 : decode c_M_worst 153 = .ok (.ifCond .ne (7), 3) := by decide +kernel
theorem d_M_worst_156 : decode c_M_worst 156 = .ok (.iconst 1, 1) := by decide +kernel
theorem d_M_worst_157 : decode c_M_worst 157 = .ok (.goto (4), 3) := by decide +kernel
theorem d_M_worst_160 : decode c_M_worst 160 = .ok (.iconst 0, 1) := by decide +kernel
theorem d_M_worst_161 : decode c_M_worst 161 = .ok (.lload 8, 2) := by decide +kernel
theorem d_M_worst_163 : decode c_M_worst 163 = .ok (.lconst 0, 1) := by decide +kernel
theorem d_M_worst_164 : decode c_M_worst 164 = .ok (.lcmp, 1) := by decide +kernel
theorem d_M_worst_165 : decode c_M_worst 165 = .ok (.ifCond .ne (7), 3) := by decide +kernel
theorem d_M_worst_168 : decode c_M_worst 168 = .ok (.iconst 1, 1) := by decide +kernel
theorem d_M_worst_169 : decode c_M_worst 169 = .ok (.goto (4), 3) := by decide +kernel
theorem d_M_worst_172 : decode c_M_worst 172 = .ok (.iconst 0, 1) := by decide +kernel
theorem d_M_worst_173 : decode c_M_worst 173 = .ok (.invokevirtual 76, 3) := by decide +kernel
theorem d_M_worst_176 : decode c_M_worst 176 = .ok (.ifCond .eq (5), 3) := by decide +kernel
theorem d_M_worst_179 : decode c_M_worst 179 = .ok (.lconst 0, 1) := by decide +kernel
theorem d_M_worst_180 : decode c_M_worst 180 = .ok (.lreturn, 1) := by decide +kernel
theorem d_M_worst_181 : decode c_M_worst 181 = .ok (.iload 4, 2) := by decide +kernel
theorem d_M_worst_183 : decode c_M_worst 183 = .ok (.ifCond .ne (8), 3) := by decide +kernel
theorem d_M_worst_186 : decode c_M_worst 186 = .ok (.lload 6, 2) := by decide +kernel
theorem d_M_worst_188 : decode c_M_worst 188 = .ok (.goto (5), 3) := by decide +kernel
theorem d_M_worst_191 : decode c_M_worst 191 = .ok (.lload 8, 2) := by decide +kernel
theorem d_M_worst_193 : decode c_M_worst 193 = .ok (.lload 6, 2) := by decide +kernel
theorem d_M_worst_195 : decode c_M_worst 195 = .ok (.lload 8, 2) := by decide +kernel
theorem d_M_worst_197 : decode c_M_worst 197 = .ok (.invokestatic 125, 3) := by decide +kernel
theorem d_M_worst_200 : decode c_M_worst 200 = .ok (.ldiv, 1) := by decide +kernel
theorem d_M_worst_201 : decode c_M_worst 201 = .ok (.lreturn, 1) := by decide +kernel
theorem d_M_bound_0 : decode c_M_bound 0 = .ok (.iconst (-1), 1) := by decide +kernel
theorem d_M_bound_1 : decode c_M_bound 1 = .ok (.istore_n 2, 1) := by decide +kernel
theorem d_M_bound_2 : decode c_M_bound 2 = .ok (.iconst 0, 1) := by decide +kernel
theorem d_M_bound_3 : decode c_M_bound 3 = .ok (.istore_n 3, 1) := by decide +kernel
theorem d_M_bound_4 : decode c_M_bound 4 = .ok (.iload_n 3, 1) := by decide +kernel
theorem d_M_bound_5 : decode c_M_bound 5 = .ok (.aload_n 0, 1) := by decide +kernel
theorem d_M_bound_6 : decode c_M_bound 6 = .ok (.getfield 60, 3) := by decide +kernel
theorem d_M_bound_9 : decode c_M_bound 9 = .ok (.if_icmp .ge (89), 3) := by decide +kernel
theorem d_M_bound_12 : decode c_M_bound 12 = .ok (.iload_n 2, 1) := by decide +kernel
theorem d_M_bound_13 : decode c_M_bound 13 = .ok (.ifCond .lt (53), 3) := by decide +kernel
theorem d_M_bound_16 : decode c_M_bound 16 = .ok (.aload_n 0, 1) := by decide +kernel
theorem d_M_bound_17 : decode c_M_bound 17 = .ok (.getfield 13, 3) := by decide +kernel
theorem d_M_bound_20 : decode c_M_bound 20 = .ok (.iload_n 3, 1) := by decide +kernel
theorem d_M_bound_21 : decode c_M_bound 21 = .ok (.iaload, 1) := by decide +kernel
theorem d_M_bound_22 : decode c_M_bound 22 = .ok (.i2l, 1) := by decide +kernel
theorem d_M_bound_23 : decode c_M_bound 23 = .ok (.aload_n 0, 1) := by decide +kernel
theorem d_M_bound_24 : decode c_M_bound 24 = .ok (.getfield 7, 3) := by decide +kernel
theorem d_M_bound_27 : decode c_M_bound 27 = .ok (.iload_n 2, 1) := by decide +kernel
theorem d_M_bound_28 : decode c_M_bound 28 = .ok (.ifCond .ge (7), 3) := by decide +kernel
theorem d_M_bound_31 : decode c_M_bound 31 = .ok (.iconst 0, 1) := by decide +kernel
theorem d_M_bound_32 : decode c_M_bound 32 = .ok (.goto (4), 3) := by decide +kernel
theorem d_M_bound_35 : decode c_M_bound 35 = .ok (.iload_n 2, 1) := by decide +kernel
theorem d_M_bound_36 : decode c_M_bound 36 = .ok (.iaload, 1) := by decide +kernel
theorem d_M_bound_37 : decode c_M_bound 37 = .ok (.i2l, 1) := by decide +kernel
theorem d_M_bound_38 : decode c_M_bound 38 = .ok (.lmul, 1) := by decide +kernel
theorem d_M_bound_39 : decode c_M_bound 39 = .ok (.aload_n 0, 1) := by decide +kernel
theorem d_M_bound_40 : decode c_M_bound 40 = .ok (.getfield 13, 3) := by decide +kernel
theorem d_M_bound_43 : decode c_M_bound 43 = .ok (.iload_n 2, 1) := by decide +kernel
theorem d_M_bound_44 : decode c_M_bound 44 = .ok (.ifCond .ge (7), 3) := by decide +kernel
theorem d_M_bound_47 : decode c_M_bound 47 = .ok (.iconst 0, 1) := by decide +kernel
theorem d_M_bound_48 : decode c_M_bound 48 = .ok (.goto (4), 3) := by decide +kernel
theorem d_M_bound_51 : decode c_M_bound 51 = .ok (.iload_n 2, 1) := by decide +kernel
theorem d_M_bound_52 : decode c_M_bound 52 = .ok (.iaload, 1) := by decide +kernel
theorem d_M_bound_53 : decode c_M_bound 53 = .ok (.i2l, 1) := by decide +kernel
theorem d_M_bound_54 : decode c_M_bound 54 = .ok (.aload_n 0, 1) := by decide +kernel
theorem d_M_bound_55 : decode c_M_bound 55 = .ok (.getfield 7, 3) := by decide +kernel
theorem d_M_bound_58 : decode c_M_bound 58 = .ok (.iload_n 3, 1) := by decide +kernel
theorem d_M_bound_59 : decode c_M_bound 59 = .ok (.iaload, 1) := by decide +kernel
theorem d_M_bound_60 : decode c_M_bound 60 = .ok (.i2l, 1) := by decide +kernel
theorem d_M_bound_61 : decode c_M_bound 61 = .ok (.lmul, 1) := by decide +kernel
theorem d_M_bound_62 : decode c_M_bound 62 = .ok (.lcmp, 1) := by decide +kernel
theorem d_M_bound_63 : decode c_M_bound 63 = .ok (.ifCond .ge (7), 3) := by decide +kernel
theorem d_M_bound_66 : decode c_M_bound 66 = .ok (.iconst 1, 1) := by decide +kernel
theorem d_M_bound_67 : decode c_M_bound 67 = .ok (.goto (4), 3) := by decide +kernel
theorem d_M_bound_70 : decode c_M_bound 70 = .ok (.iconst 0, 1) := by decide +kernel
theorem d_M_bound_71 : decode c_M_bound 71 = .ok (.istore 4, 2) := by decide +kernel
theorem d_M_bound_73 : decode c_M_bound 73 = .ok (.aload_n 0, 1) := by decide +kernel
theorem d_M_bound_74 : decode c_M_bound 74 = .ok (.iload_n 3, 1) := by decide +kernel
theorem d_M_bound_75 : decode c_M_bound 75 = .ok (.invokevirtual 111, 3) := by decide +kernel
theorem d_M_bound_78 : decode c_M_bound 78 = .ok (.ifCond .le (12), 3) := by decide +kernel
theorem d_M_bound_81 : decode c_M_bound 81 = .ok (.iload 4, 2) := by decide +kernel
theorem d_M_bound_83 : decode c_M_bound 83 = .ok (.ifCond .eq (7), 3) := by decide +kernel
theorem d_M_bound_86 : decode c_M_bound 86 = .ok (.iload_n 3, 1) := by decide +kernel
theorem d_M_bound_87 : decode c_M_bound 87 = .ok (.goto (4), 3) := by decide +kernel
theorem d_M_bound_90 : decode c_M_bound 90 = .ok (.iload_n 2, 1) := by decide +kernel
theorem d_M_bound_91 : decode c_M_bound 91 = .ok (.istore_n 2, 1) := by decide +kernel
theorem d_M_bound_92 : decode c_M_bound 92 = .ok (.iinc 3 (1), 3) := by decide +kernel
theorem d_M_bound_95 : decode c_M_bound 95 = .ok (.goto (-91), 3) := by decide +kernel
theorem d_M_bound_98 : decode c_M_bound 98 = .ok (.aload_n 0, 1) := by decide +kernel
theorem d_M_bound_99 : decode c_M_bound 99 = .ok (.aload_n 0, 1) := by decide +kernel
theorem d_M_bound_100 : decode c_M_bound 100 = .ok (.iload_n 1, 1) := by decide +kernel
theorem d_M_bound_101 : decode c_M_bound 101 = .ok (.invokevirtual 92, 3) := by decide +kernel
theorem d_M_bound_104 : decode c_M_bound 104 = .ok (.ifCond .ne (7), 3) := by decide +kernel
theorem d_M_bound_107 : decode c_M_bound 107 = .ok (.iconst 1, 1) := by decide +kernel
theorem d_M_bound_108 : decode c_M_bound 108 = .ok (.goto (4), 3) := by decide +kernel
