theorem d_M_bound_111 : decode c_M_bound 111 = .ok (.iconst 0, 1) := by decide +kernel
theorem d_M_bound_112 : decode c_M_bound 112 = .ok (.iload_n 2, 1) := by decide +kernel
theorem d_M_bound_113 : decode c_M_bound 113 = .ok (.ifCond .ge (7), 3) := by decide +kernel
theorem d_M_bound_116 : decode c_M_bound 116 = .ok (.iconst 1, 1) := by decide +kernel
theorem d_M_bound_117 : decode c_M_bound 117 = .ok (.goto (4), 3) := by decide +kernel
theorem d_M_bound_120 : decode c_M_bound 120 = .ok (.iconst 0, 1) := by decide +kernel
theorem d_M_bound_121 : decode c_M_bound 121 = .ok (.iconst 0, 1) := by decide +kernel
theorem d_M_bound_122 : decode c_M_bound 122 = .ok (.invokevirtual 76, 3) := by decide +kernel
theorem d_M_bound_125 : decode c_M_bound 125 = .ok (.ifCond .eq (5), 3) := by decide +kernel
theorem d_M_bound_128 : decode c_M_bound 128 = .ok (.lconst 0, 1) := by decide +kernel
theorem d_M_bound_129 : decode c_M_bound 129 = .ok (.lreturn, 1) := by decide +kernel
theorem d_M_bound_130 : decode c_M_bound 130 = .ok (.aload_n 0, 1) := by decide +kernel
theorem d_M_bound_131 : decode c_M_bound 131 = .ok (.getfield 28, 3) := by decide +kernel
theorem d_M_bound_134 : decode c_M_bound 134 = .ok (.iload_n 1, 1) := by decide +kernel
theorem d_M_bound_135 : decode c_M_bound 135 = .ok (.iaload, 1) := by decide +kernel
theorem d_M_bound_136 : decode c_M_bound 136 = .ok (.i2l, 1) := by decide +kernel
theorem d_M_bound_137 : decode c_M_bound 137 = .ok (.aload_n 0, 1) := by decide +kernel
theorem d_M_bound_138 : decode c_M_bound 138 = .ok (.getfield 13, 3) := by decide +kernel
theorem d_M_bound_141 : decode c_M_bound 141 = .ok (.iload_n 2, 1) := by decide +kernel
theorem d_M_bound_142 : decode c_M_bound 142 = .ok (.iaload, 1) := by decide +kernel
theorem d_M_bound_143 : decode c_M_bound 143 = .ok (.i2l, 1) := by decide +kernel
theorem d_M_bound_144 : decode c_M_bound 144 = .ok (.lmul, 1) := by decide +kernel
theorem d_M_bound_145 : decode c_M_bound 145 = .ok (.aload_n 0, 1) := by decide +kernel
theorem d_M_bound_146 : decode c_M_bound 146 = .ok (.getfield 7, 3) := by decide +kernel
theorem d_M_bound_149 : decode c_M_bound 149 = .ok (.iload_n 2, 1) := by decide +kernel
theorem d_M_bound_150 : decode c_M_bound 150 = .ok (.iaload, 1) := by decide +kernel
theorem d_M_bound_151 : decode c_M_bound 151 = .ok (.i2l, 1) := by decide +kernel
theorem d_M_bound_152 : decode c_M_bound 152 = .ok (.ladd, 1) := by decide +kernel
theorem d_M_bound_153 : decode c_M_bound 153 = .ok (.lconst 1, 1) := by decide +kernel
theorem d_M_bound_154 : decode c_M_bound 154 = .ok (.lsub, 1) := by decide +kernel
theorem d_M_bound_155 : decode c_M_bound 155 = .ok (.aload_n 0, 1) := by decide +kernel
theorem d_M_bound_156 : decode c_M_bound 156 = .ok (.getfield 7, 3) := by decide +kernel
theorem d_M_bound_159 : decode c_M_bound 159 = .ok (.iload_n 2, 1) := by decide +kernel
theorem d_M_bound_160 : decode c_M_bound 160 = .ok (.iaload, 1) := by decide +kernel
theorem d_M_bound_161 : decode c_M_bound 161 = .ok (.i2l, 1) := by decide +kernel
theorem d_M_bound_162 : decode c_M_bound 162 = .ok (.ldiv, 1) := by decide +kernel
theorem d_M_bound_163 : decode c_M_bound 163 = .ok (.lreturn, 1) := by decide +kernel
theorem d_M_lookAtAll_0 : decode c_M_lookAtAll 0 = .ok (.iconst 0, 1) := by decide +kernel
theorem d_M_lookAtAll_1 : decode c_M_lookAtAll 1 = .ok (.istore_n 2, 1) := by decide +kernel
theorem d_M_lookAtAll_2 : decode c_M_lookAtAll 2 = .ok (.iload_n 2, 1) := by decide +kernel
theorem d_M_lookAtAll_3 : decode c_M_lookAtAll 3 = .ok (.sipush (2048), 3) := by decide +kernel
theorem d_M_lookAtAll_6 : decode c_M_lookAtAll 6 = .ok (.if_icmp .ge (16), 3) := by decide +kernel
theorem d_M_lookAtAll_9 : decode c_M_lookAtAll 9 = .ok (.aload_n 0, 1) := by decide +kernel
theorem d_M_lookAtAll_10 : decode c_M_lookAtAll 10 = .ok (.getfield 52, 3) := by decide +kernel
theorem d_M_lookAtAll_13 : decode c_M_lookAtAll 13 = .ok (.iload_n 2, 1) := by decide +kernel
theorem d_M_lookAtAll_14 : decode c_M_lookAtAll 14 = .ok (.iconst 0, 1) := by decide +kernel
theorem d_M_lookAtAll_15 : decode c_M_lookAtAll 15 = .ok (.bastore, 1) := by decide +kernel
theorem d_M_lookAtAll_16 : decode c_M_lookAtAll 16 = .ok (.iinc 2 (1), 3) := by decide +kernel
theorem d_M_lookAtAll_19 : decode c_M_lookAtAll 19 = .ok (.goto (-17), 3) := by decide +kernel
theorem d_M_lookAtAll_22 : decode c_M_lookAtAll 22 = .ok (.iconst 0, 1) := by decide +kernel
theorem d_M_lookAtAll_23 : decode c_M_lookAtAll 23 = .ok (.istore_n 2, 1) := by decide +kernel
theorem d_M_lookAtAll_24 : decode c_M_lookAtAll 24 = .ok (.iload_n 2, 1) := by decide +kernel
theorem d_M_lookAtAll_25 : decode c_M_lookAtAll 25 = .ok (.iconst 5, 1) := by decide +kernel
theorem d_M_lookAtAll_26 : decode c_M_lookAtAll 26 = .ok (.if_icmp .ge (16), 3) := by decide +kernel
theorem d_M_lookAtAll_29 : decode c_M_lookAtAll 29 = .ok (.aload_n 0, 1) := by decide +kernel
theorem d_M_lookAtAll_30 : decode c_M_lookAtAll 30 = .ok (.getfield 49, 3) := by decide +kernel
theorem d_M_lookAtAll_33 : decode c_M_lookAtAll 33 = .ok (.iload_n 2, 1) := by decide +kernel
theorem d_M_lookAtAll_34 : decode c_M_lookAtAll 34 = .ok (.iconst 0, 1) := by decide +kernel
theorem d_M_lookAtAll_35 : decode c_M_lookAtAll 35 = .ok (.iastore, 1) := by decide +kernel
theorem d_M_lookAtAll_36 : decode c_M_lookAtAll 36 = .ok (.iinc 2 (1), 3) := by decide +kernel
theorem d_M_lookAtAll_39 : decode c_M_lookAtAll 39 = .ok (.goto (-15), 3) := by decide +kernel
theorem d_M_lookAtAll_42 : decode c_M_lookAtAll 42 = .ok (.iconst 1, 1) := by decide +kernel
theorem d_M_lookAtAll_43 : decode c_M_lookAtAll 43 = .ok (.istore_n 2, 1) := by decide +kernel
theorem d_M_lookAtAll_44 : decode c_M_lookAtAll 44 = .ok (.iload_n 2, 1) := by decide +kernel
theorem d_M_lookAtAll_45 : decode c_M_lookAtAll 45 = .ok (.ifCond .eq (79), 3) := by decide +kernel
theorem d_M_lookAtAll_48 : decode c_M_lookAtAll 48 = .ok (.aload_n 0, 1) := by decide +kernel
theorem d_M_lookAtAll_49 : decode c_M_lookAtAll 49 = .ok (.getfield 52, 3) := by decide +kernel
theorem d_M_lookAtAll_52 : decode c_M_lookAtAll 52 = .ok (.aload_n 0, 1) := by decide +kernel
theorem d_M_lookAtAll_53 : decode c_M_lookAtAll 53 = .ok (.iload_n 1, 1) := by decide +kernel
theorem d_M_lookAtAll_54 : decode c_M_lookAtAll 54 = .ok (.invokevirtual 115, 3) := by decide +kernel
theorem d_M_lookAtAll_57 : decode c_M_lookAtAll 57 = .ok (.iconst 1, 1) := by decide +kernel
theorem d_M_lookAtAll_58 : decode c_M_lookAtAll 58 = .ok (.bastore, 1) := by decide +kernel
theorem d_M_lookAtAll_59 : decode c_M_lookAtAll 59 = .ok (.aload_n 0, 1) := by decide +kernel
theorem d_M_lookAtAll_60 : decode c_M_lookAtAll 60 = .ok (.getfield 60, 3) := by decide +kernel
theorem d_M_lookAtAll_63 : decode c_M_lookAtAll 63 = .ok (.iconst 1, 1) := by decide +kernel
theorem d_M_lookAtAll_64 : decode c_M_lookAtAll 64 = .ok (.isub, 1) := by decide +kernel
theorem d_M_lookAtAll_65 : decode c_M_lookAtAll 65 = .ok (.istore_n 3, 1) := by decide +kernel
theorem d_M_lookAtAll_66 : decode c_M_lookAtAll 66 = .ok (.iload_n 3, 1) := by decide +kernel
theorem d_M_lookAtAll_67 : decode c_M_lookAtAll 67 = .ok (.ifCond .lt (30), 3) := by decide +kernel
theorem d_M_lookAtAll_70 : decode c_M_lookAtAll 70 = .ok (.aload_n 0, 1) := by decide +kernel
theorem d_M_lookAtAll_71 : decode c_M_lookAtAll 71 = .ok (.getfield 49, 3) := by decide +kernel
theorem d_M_lookAtAll_74 : decode c_M_lookAtAll 74 = .ok (.iload_n 3, 1) := by decide +kernel
theorem d_M_lookAtAll_75 : decode c_M_lookAtAll 75 = .ok (.iaload, 1) := by decide +kernel
theorem d_M_lookAtAll_76 : decode c_M_lookAtAll 76 = .ok (.aload_n 0, 1) := by decide +kernel
theorem d_M_lookAtAll_77 : decode c_M_lookAtAll 77 = .ok (.iload_n 3, 1) := by decide +kernel
theorem d_M_lookAtAll_78 : decode c_M_lookAtAll 78 = .ok (.invokevirtual 111, 3) := by decide +kernel
theorem d_M_lookAtAll_81 : decode c_M_lookAtAll 81 = .ok (.if_icmp .ne (16), 3) := by decide +kernel
theorem d_M_lookAtAll_84 : decode c_M_lookAtAll 84 = .ok (.aload_n 0, 1) := by decide +kernel
theorem d_M_lookAtAll_85 : decode c_M_lookAtAll 85 = .ok (.getfield 49, 3) := by decide +kernel
theorem d_M_lookAtAll_88 : decode c_M_lookAtAll 88 = .ok (.iload_n 3, 1) := by decide +kernel
theorem d_M_lookAtAll_89 : decode c_M_lookAtAll 89 = .ok (.iconst 0, 1) := by decide +kernel
theorem d_M_lookAtAll_90 : decode c_M_lookAtAll 90 = .ok (.iastore, 1) := by decide +kernel
theorem d_M_lookAtAll_91 : decode c_M_lookAtAll 91 = .ok (.iinc 3 (-1), 3) := by decide +kernel
theorem d_M_lookAtAll_94 : decode c_M_lookAtAll 94 = .ok (.goto (-28), 3) := by decide +kernel
theorem d_M_lookAtAll_97 : decode c_M_lookAtAll 97 = .ok (.iload_n 3, 1) := by decide +kernel
theorem d_M_lookAtAll_98 : decode c_M_lookAtAll 98 = .ok (.ifCond .lt (7), 3) := by decide +kernel
theorem d_M_lookAtAll_101 : decode c_M_lookAtAll 101 = .ok (.iconst 1, 1) := by decide +kernel
theorem d_M_lookAtAll_102 : decode c_M_lookAtAll 102 = .ok (.goto (4), 3) := by decide +kernel
theorem d_M_lookAtAll_105 : decode c_M_lookAtAll 105 = .ok (.iconst 0, 1) := by decide +kernel
theorem d_M_lookAtAll_106 : decode c_M_lookAtAll 106 = .ok (.istore_n 2, 1) := by decide +kernel
theorem d_M_lookAtAll_107 : decode c_M_lookAtAll 107 = .ok (.iload_n 2, 1) := by decide +kernel
theorem d_M_lookAtAll_108 : decode c_M_lookAtAll 108 = .ok (.ifCond .eq (13), 3) := by decide +kernel
theorem d_M_lookAtAll_111 : decode c_M_lookAtAll 111 = .ok (.aload_n 0, 1) := by decide +kernel
theorem d_M_lookAtAll_112 : decode c_M_lookAtAll 112 = .ok (.getfield 49, 3) := by decide +kernel
theorem d_M_lookAtAll_115 : decode c_M_lookAtAll 115 = .ok (.iload_n 3, 1) := by decide +kernel
theorem d_M_lookAtAll_116 : decode c_M_lookAtAll 116 = .ok (.dup2, 1) := by decide +kernel
theorem d_M_lookAtAll_117 : decode c_M_lookAtAll 117 = .ok (.iaload, 1) := by decide +kernel
theorem d_M_lookAtAll_118 : decode c_M_lookAtAll 118 = .ok (.iconst 1, 1) := by decide +kernel
theorem d_M_lookAtAll_119 : decode c_M_lookAtAll 119 = .ok (.iadd, 1) := by decide +kernel
theorem d_M_lookAtAll_120 : decode c_M_lookAtAll 120 = .ok (.iastore, 1) := by decide +kernel
theorem d_M_lookAtAll_121 : decode c_M_lookAtAll 121 = .ok (.goto (-77), 3) := by decide +kernel
theorem d_M_lookAtAll_124 : decode c_M_lookAtAll 124 = .ok (.return_, 1) := by decide +kernel
theorem d_M_isSome_0 : decode c_M_isSome 0 = .ok (.iconst 0, 1) := by decide +kernel
theorem d_M_isSome_1 : decode c_M_isSome 1 = .ok (.istore_n 2, 1) := by decide +kernel
theorem d_M_isSome_2 : decode c_M_isSome 2 = .ok (.iconst 0, 1) := by decide +kernel
theorem d_M_isSome_3 : decode c_M_isSome 3 = .ok (.istore_n 3, 1) := by decide +kernel
theorem d_M_isSome_4 : decode c_M_isSome 4 = .ok (.iload_n 3, 1) := by decide +kernel
theorem d_M_isSome_5 : decode c_M_isSome 5 = .ok (.sipush (2048), 3) := by decide +kernel
theorem d_M_isSome_8 : decode c_M_isSome 8 = .ok (.if_icmp .ge (36), 3) := by decide +kernel
theorem d_M_isSome_11 : decode c_M_isSome 11 = .ok (.iload_n 2, 1) := by decide +kernel
theorem d_M_isSome_12 : decode c_M_isSome 12 = .ok (.ifCond .ne (20), 3) := by decide +kernel
theorem d_M_isSome_15 : decode c_M_isSome 15 = .ok (.aload_n 0, 1) := by decide +kernel
theorem d_M_isSome_16 : decode c_M_isSome 16 = .ok (.getfield 52, 3) := by decide +kernel
theorem d_M_isSome_19 : decode c_M_isSome 19 = .ok (.iload_n 3, 1) := by decide +kernel
theorem d_M_isSome_20 : decode c_M_isSome 20 = .ok (.baload, 1) := by decide +kernel
theorem d_M_isSome_21 : decode c_M_isSome 21 = .ok (.ifCond .eq (15), 3) := by decide +kernel
theorem d_M_isSome_24 : decode c_M_isSome 24 = .ok (.iload_n 3, 1) := by decide +kernel
theorem d_M_isSome_25 : decode c_M_isSome 25 = .ok (.iload_n 1, 1) := by decide +kernel
theorem d_M_isSome_26 : decode c_M_isSome 26 = .ok (.iconst (-1), 1) := by decide +kernel
theorem d_M_isSome_27 : decode c_M_isSome 27 = .ok (.ixor, 1) := by decide +kernel
theorem d_M_isSome_28 : decode c_M_isSome 28 = .ok (.iand, 1) := by decide +kernel
theorem d_M_isSome_29 : decode c_M_isSome 29 = .ok (.ifCond .ne (7), 3) := by decide +kernel
theorem d_M_isSome_32 : decode c_M_isSome 32 = .ok (.iconst 1, 1) := by decide +kernel
theorem d_M_isSome_33 : decode c_M_isSome 33 = .ok (.goto (4), 3) := by decide +kernel
theorem d_M_isSome_36 : decode c_M_isSome 36 = .ok (.iconst 0, 1) := by decide +kernel
theorem d_M_isSome_37 : decode c_M_isSome 37 = .ok (.istore_n 2, 1) := by decide +kernel
theorem d_M_isSome_38 : decode c_M_isSome 38 = .ok (.iinc 3 (1), 3) := by decide +kernel
theorem d_M_isSome_41 : decode c_M_isSome 41 = .ok (.goto (-37), 3) := by decide +kernel
theorem d_M_isSome_44 : decode c_M_isSome 44 = .ok (.iload_n 2, 1) := by decide +kernel
theorem d_M_isSome_45 : decode c_M_isSome 45 = .ok (.ireturn, 1) := by decide +kernel
theorem d_M_clash_0 : decode c_M_clash 0 = .ok (.aload_n 0, 1) := by decide +kernel
theorem d_M_clash_1 : decode c_M_clash 1 = .ok (.aload_n 0, 1) := by decide +kernel
theorem d_M_clash_2 : decode c_M_clash 2 = .ok (.iload_n 1, 1) := by decide +kernel
theorem d_M_clash_3 : decode c_M_clash 3 = .ok (.invokevirtual 92, 3) := by decide +kernel
theorem d_M_clash_6 : decode c_M_clash 6 = .ok (.ifCond .ne (7), 3) := by decide +kernel
theorem d_M_clash_9 : decode c_M_clash 9 = .ok (.iconst 1, 1) := by decide +kernel
theorem d_M_clash_10 : decode c_M_clash 10 = .ok (.goto (4), 3) := by decide +kernel
theorem d_M_clash_13 : decode c_M_clash 13 = .ok (.iconst 0, 1) := by decide +kernel
theorem d_M_clash_14 : decode c_M_clash 14 = .ok (.iconst 0, 1) := by decide +kernel
theorem d_M_clash_15 : decode c_M_clash 15 = .ok (.iconst 0, 1) := by decide +kernel
theorem d_M_clash_16 : decode c_M_clash 16 = .ok (.invokevirtual 76, 3) := by decide +kernel
theorem d_M_clash_19 : decode c_M_clash 19 = .ok (.ifCond .eq (5), 3) := by decide +kernel
theorem d_M_clash_22 : decode c_M_clash 22 = .ok (.iconst 0, 1) := by decide +kernel
theorem d_M_clash_23 : decode c_M_clash 23 = .ok (.ireturn, 1) := by decide +kernel
theorem d_M_clash_24 : decode c_M_clash 24 = .ok (.aload_n 0, 1) := by decide +kernel
theorem d_M_clash_25 : decode c_M_clash 25 = .ok (.iload_n 1, 1) := by decide +kernel
theorem d_M_clash_26 : decode c_M_clash 26 = .ok (.invokevirtual 129, 3) := by decide +kernel
theorem d_M_clash_29 : decode c_M_clash 29 = .ok (.aload_n 0, 1) := by decide +kernel
theorem d_M_clash_30 : decode c_M_clash 30 = .ok (.iconst 0, 1) := by decide +kernel
theorem d_M_clash_31 : decode c_M_clash 31 = .ok (.invokevirtual 132, 3) := by decide +kernel
theorem d_M_clash_34 : decode c_M_clash 34 = .ok (.ifCond .eq (5), 3) := by decide +kernel
theorem d_M_clash_37 : decode c_M_clash 37 = .ok (.iconst 0, 1) := by decide +kernel
theorem d_M_clash_38 : decode c_M_clash 38 = .ok (.ireturn, 1) := by decide +kernel
theorem d_M_clash_39 : decode c_M_clash 39 = .ok (.iconst 0, 1) := by decide +kernel
theorem d_M_clash_40 : decode c_M_clash 40 = .ok (.istore_n 2, 1) := by decide +kernel
theorem d_M_clash_41 : decode c_M_clash 41 = .ok (.iconst 0, 1) := by decide +kernel
theorem d_M_clash_42 : decode c_M_clash 42 = .ok (.istore_n 3, 1) := by decide +kernel
theorem d_M_clash_43 : decode c_M_clash 43 = .ok (.iload_n 3, 1) := by decide +kernel
theorem d_M_clash_44 : decode c_M_clash 44 = .ok (.bipush (11), 2) := by decide +kernel
theorem d_M_clash_46 : decode c_M_clash 46 = .ok (.if_icmp .ge (31), 3) := by decide +kernel
theorem d_M_clash_49 : decode c_M_clash 49 = .ok (.iload_n 2, 1) := by decide +kernel
theorem d_M_clash_50 : decode c_M_clash 50 = .ok (.aload_n 0, 1) := by decide +kernel
theorem d_M_clash_51 : decode c_M_clash 51 = .ok (.iload_n 2, 1) := by decide +kernel
theorem d_M_clash_52 : decode c_M_clash 52 = .ok (.iconst 1, 1) := by decide +kernel
theorem d_M_clash_53 : decode c_M_clash 53 = .ok (.iload_n 3, 1) := by decide +kernel
theorem d_M_clash_54 : decode c_M_clash 54 = .ok (.ishl, 1) := by decide +kernel
theorem d_M_clash_55 : decode c_M_clash 55 = .ok (.ior, 1) := by decide +kernel
theorem d_M_clash_56 : decode c_M_clash 56 = .ok (.invokevirtual 132, 3) := by decide +kernel
theorem d_M_clash_59 : decode c_M_clash 59 = .ok (.ifCond .eq (7), 3) := by decide +kernel
theorem d_M_clash_62 : decode c_M_clash 62 = .ok (.iconst 0, 1) := by decide +kernel
theorem d_M_clash_63 : decode c_M_clash 63 = .ok (.goto (6), 3) := by decide +kernel
theorem d_M_clash_66 : decode c_M_clash 66 = .ok (.iconst 1, 1) := by decide +kernel
theorem d_M_clash_67 : decode c_M_clash 67 = .ok (.iload_n 3, 1) := by decide +kernel
theorem d_M_clash_68 : decode c_M_clash 68 = .ok (.ishl, 1) := by decide +kernel
theorem d_M_clash_69 : decode c_M_clash 69 = .ok (.ior, 1) := by decide +kernel
theorem d_M_clash_70 : decode c_M_clash 70 = .ok (.istore_n 2, 1) := by decide +kernel
theorem d_M_clash_71 : decode c_M_clash 71 = .ok (.iinc 3 (1), 3) := by decide +kernel
theorem d_M_clash_74 : decode c_M_clash 74 = .ok (.goto (-31), 3) := by decide +kernel
theorem d_M_clash_77 : decode c_M_clash 77 = .ok (.sipush (2047), 3) := by decide +kernel
theorem d_M_clash_80 : decode c_M_clash 80 = .ok (.iload_n 2, 1) := by decide +kernel
theorem d_M_clash_81 : decode c_M_clash 81 = .ok (.iconst (-1), 1) := by decide +kernel
theorem d_M_clash_82 : decode c_M_clash 82 = .ok (.ixor, 1) := by decide +kernel
theorem d_M_clash_83 : decode c_M_clash 83 = .ok (.iand, 1) := by decide +kernel
theorem d_M_clash_84 : decode c_M_clash 84 = .ok (.ireturn, 1) := by decide +kernel
theorem d_M_take_0 : decode c_M_take 0 = .ok (.aload_n 0, 1) := by decide +kernel
theorem d_M_take_1 : decode c_M_take 1 = .ok (.iload_n 1, 1) := by decide +kernel
theorem d_M_take_2 : decode c_M_take 2 = .ok (.invokevirtual 92, 3) := by decide +kernel
theorem d_M_take_5 : decode c_M_take 5 = .ok (.ifCond .ne (7), 3) := by decide +kernel
theorem d_M_take_8 : decode c_M_take 8 = .ok (.iconst 1, 1) := by decide +kernel
theorem d_M_take_9 : decode c_M_take 9 = .ok (.goto (4), 3) := by decide +kernel
theorem d_M_take_12 : decode c_M_take 12 = .ok (.iconst 0, 1) := by decide +kernel
theorem d_M_take_13 : decode c_M_take 13 = .ok (.istore_n 2, 1) := by decide +kernel
theorem d_M_take_14 : decode c_M_take 14 = .ok (.iconst 0, 1) := by decide +kernel
theorem d_M_take_15 : decode c_M_take 15 = .ok (.istore_n 3, 1) := by decide +kernel
theorem d_M_take_16 : decode c_M_take 16 = .ok (.iconst 0, 1) := by decide +kernel
theorem d_M_take_17 : decode c_M_take 17 = .ok (.istore 4, 2) := by decide +kernel
theorem d_M_take_19 : decode c_M_take 19 = .ok (.iload_n 2, 1) := by decide +kernel
theorem d_M_take_20 : decode c_M_take 20 = .ok (.ifCond .ne (49), 3) := by decide +kernel
theorem d_M_take_23 : decode c_M_take 23 = .ok (.iload 4, 2) := by decide +kernel
theorem d_M_take_25 : decode c_M_take 25 = .ok (.aload_n 0, 1) := by decide +kernel
theorem d_M_take_26 : decode c_M_take 26 = .ok (.getfield 60, 3) := by decide +kernel
theorem d_M_take_29 : decode c_M_take 29 = .ok (.if_icmp .ge (40), 3) := by decide +kernel
theorem d_M_take_32 : decode c_M_take 32 = .ok (.iload_n 3, 1) := by decide +kernel
theorem d_M_take_33 : decode c_M_take 33 = .ok (.ifCond .ne (24), 3) := by decide +kernel
theorem d_M_take_36 : decode c_M_take 36 = .ok (.aload_n 0, 1) := by decide +kernel
theorem d_M_take_37 : decode c_M_take 37 = .ok (.getfield 46, 3) := by decide +kernel
theorem d_M_take_40 : decode c_M_take 40 = .ok (.iconst 5, 1) := by decide +kernel
theorem d_M_take_41 : decode c_M_take 41 = .ok (.iload_n 1, 1) := by decide +kernel
theorem d_M_take_42 : decode c_M_take 42 = .ok (.imul, 1) := by decide +kernel
theorem d_M_take_43 : decode c_M_take 43 = .ok (.iload 4, 2) := by decide +kernel
theorem d_M_take_45 : decode c_M_take 45 = .ok (.iadd, 1) := by decide +kernel
theorem d_M_take_46 : decode c_M_take 46 = .ok (.iaload, 1) := by decide +kernel
theorem d_M_take_47 : decode c_M_take 47 = .ok (.aload_n 0, 1) := by decide +kernel
theorem d_M_take_48 : decode c_M_take 48 = .ok (.getfield 16, 3) := by decide +kernel
theorem d_M_take_51 : decode c_M_take 51 = .ok (.iload 4, 2) := by decide +kernel
theorem d_M_take_53 : decode c_M_take 53 = .ok (.iaload, 1) := by decide +kernel
theorem d_M_take_54 : decode c_M_take 54 = .ok (.if_icmp .le (7), 3) := by decide +kernel
theorem d_M_take_57 : decode c_M_take 57 = .ok (.iconst 1, 1) := by decide +kernel
theorem d_M_take_58 : decode c_M_take 58 = .ok (.goto (4), 3) := by decide +kernel
theorem d_M_take_61 : decode c_M_take 61 = .ok (.iconst 0, 1) := by decide +kernel
theorem d_M_take_62 : decode c_M_take 62 = .ok (.istore_n 3, 1) := by decide +kernel
theorem d_M_take_63 : decode c_M_take 63 = .ok (.iinc 4 (1), 3) := by decide +kernel
theorem d_M_take_66 : decode c_M_take 66 = .ok (.goto (-47), 3) := by decide +kernel
theorem d_M_take_69 : decode c_M_take 69 = .ok (.aload_n 0, 1) := by decide +kernel
theorem d_M_take_70 : decode c_M_take 70 = .ok (.iload_n 2, 1) := by decide +kernel
theorem d_M_take_71 : decode c_M_take 71 = .ok (.aload_n 0, 1) := by decide +kernel
theorem d_M_take_72 : decode c_M_take 72 = .ok (.iload_n 1, 1) := by decide +kernel
theorem d_M_take_73 : decode c_M_take 73 = .ok (.invokevirtual 122, 3) := by decide +kernel
theorem d_M_take_76 : decode c_M_take 76 = .ok (.ifCond .ne (7), 3) := by decide +kernel
theorem d_M_take_79 : decode c_M_take 79 = .ok (.iconst 1, 1) := by decide +kernel
theorem d_M_take_80 : decode c_M_take 80 = .ok (.goto (4), 3) := by decide +kernel
theorem d_M_take_83 : decode c_M_take 83 = .ok (.iconst 0, 1) := by decide +kernel
theorem d_M_take_84 : decode c_M_take 84 = .ok (.iload_n 3, 1) := by decide +kernel
theorem d_M_take_85 : decode c_M_take 85 = .ok (.invokevirtual 76, 3) := by decide +kernel
theorem d_M_take_88 : decode c_M_take 88 = .ok (.ifCond .eq (5), 3) := by decide +kernel
theorem d_M_take_91 : decode c_M_take 91 = .ok (.iconst 0, 1) := by decide +kernel
theorem d_M_take_92 : decode c_M_take 92 = .ok (.ireturn, 1) := by decide +kernel
theorem d_M_take_93 : decode c_M_take 93 = .ok (.iconst 0, 1) := by decide +kernel
theorem d_M_take_94 : decode c_M_take 94 = .ok (.istore 4, 2) := by decide +kernel
theorem d_M_take_96 : decode c_M_take 96 = .ok (.iload 4, 2) := by decide +kernel
theorem d_M_take_98 : decode c_M_take 98 = .ok (.aload_n 0, 1) := by decide +kernel
theorem d_M_take_99 : decode c_M_take 99 = .ok (.getfield 60, 3) := by decide +kernel
theorem d_M_take_102 : decode c_M_take 102 = .ok (.if_icmp .ge (30), 3) := by decide +kernel
theorem d_M_take_105 : decode c_M_take 105 = .ok (.aload_n 0, 1) := by decide +kernel
theorem d_M_take_106 : decode c_M_take 106 = .ok (.getfield 16, 3) := by decide +kernel
theorem d_M_take_109 : decode c_M_take 109 = .ok (.iload 4, 2) := by decide +kernel
theorem d_M_take_111 : decode c_M_take 111 = .ok (.dup2, 1) := by decide +kernel
theorem d_M_take_112 : decode c_M_take 112 = .ok (.iaload, 1) := by decide +kernel
theorem d_M_take_113 : decode c_M_take 113 = .ok (.aload_n 0, 1) := by decide +kernel
theorem d_M_take_114 : decode c_M_take 114 = .ok (.getfield 46, 3) := by decide +kernel
theorem d_M_take_117 : decode c_M_take 117 = .ok (.iconst 5, 1) := by decide +kernel
theorem d_M_take_118 : decode c_M_take 118 = .ok (.iload_n 1, 1) := by decide +kernel
theorem d_M_take_119 : decode c_M_take 119 = .ok (.imul, 1) := by decide +kernel
theorem d_M_take_120 : decode c_M_take 120 = .ok (.iload 4, 2) := by decide +kernel
theorem d_M_take_122 : decode c_M_take 122 = .ok (.iadd, 1) := by decide +kernel
theorem d_M_take_123 : decode c_M_take 123 = .ok (.iaload, 1) := by decide +kernel
theorem d_M_take_124 : decode c_M_take 124 = .ok (.isub, 1) := by decide +kernel
theorem d_M_take_125 : decode c_M_take 125 = .ok (.iastore, 1) := by decide +kernel
theorem d_M_take_126 : decode c_M_take 126 = .ok (.iinc 4 (1), 3) := by decide +kernel
theorem d_M_take_129 : decode c_M_take 129 = .ok (.goto (-33), 3) := by decide +kernel
theorem d_M_take_132 : decode c_M_take 132 = .ok (.aload_n 0, 1) := by decide +kernel
theorem d_M_take_133 : decode c_M_take 133 = .ok (.getfield 43, 3) := by decide +kernel
theorem d_M_take_136 : decode c_M_take 136 = .ok (.iload_n 1, 1) := by decide +kernel
theorem d_M_take_137 : decode c_M_take 137 = .ok (.iaload, 1) := by decide +kernel
theorem d_M_take_138 : decode c_M_take 138 = .ok (.istore 4, 2) := by decide +kernel
theorem d_M_take_140 : decode c_M_take 140 = .ok (.aload_n 0, 1) := by decide +kernel
theorem d_M_take_141 : decode c_M_take 141 = .ok (.getfield 43, 3) := by decide +kernel
theorem d_M_take_144 : decode c_M_take 144 = .ok (.iload_n 1, 1) := by decide +kernel
theorem d_M_take_145 : decode c_M_take 145 = .ok (.iconst (-1), 1) := by decide +kernel
theorem d_M_take_146 : decode c_M_take 146 = .ok (.iastore, 1) := by decide +kernel
theorem d_M_take_147 : decode c_M_take 147 = .ok (.iload 4, 2) := by decide +kernel
theorem d_M_take_149 : decode c_M_take 149 = .ok (.ireturn, 1) := by decide +kernel
