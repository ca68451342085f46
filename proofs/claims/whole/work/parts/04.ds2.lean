theorem d_P_tryNumbers_31 : decode c_P_tryNumbers 31 = .ok (.getfield 59, 3) := by decide +kernel
theorem d_P_tryNumbers_34 : decode c_P_tryNumbers 34 = .ok (.iload_n 1, 1) := by decide +kernel
theorem d_P_tryNumbers_35 : decode c_P_tryNumbers 35 = .ok (.iaload, 1) := by decide +kernel
theorem d_P_tryNumbers_36 : decode c_P_tryNumbers 36 = .ok (.if_icmp .gt (72), 3) := by decide +kernel
theorem d_P_tryNumbers_39 : decode c_P_tryNumbers 39 = .ok (.aload_n 0, 1) := by decide +kernel
theorem d_P_tryNumbers_40 : decode c_P_tryNumbers 40 = .ok (.getfield 36, 3) := by decide +kernel
theorem d_P_tryNumbers_43 : decode c_P_tryNumbers 43 = .ok (.aload_n 0, 1) := by decide +kernel
theorem d_P_tryNumbers_44 : decode c_P_tryNumbers 44 = .ok (.getfield 33, 3) := by decide +kernel
theorem d_P_tryNumbers_47 : decode c_P_tryNumbers 47 = .ok (.if_icmp .lt (9), 3) := by decide +kernel
theorem d_P_tryNumbers_50 : decode c_P_tryNumbers 50 = .ok (.aload_n 0, 1) := by decide +kernel
theorem d_P_tryNumbers_51 : decode c_P_tryNumbers 51 = .ok (.iconst 1, 1) := by decide +kernel
theorem d_P_tryNumbers_52 : decode c_P_tryNumbers 52 = .ok (.putfield 39, 3) := by decide +kernel
theorem d_P_tryNumbers_55 : decode c_P_tryNumbers 55 = .ok (.return_, 1) := by decide +kernel
theorem d_P_tryNumbers_56 : decode c_P_tryNumbers 56 = .ok (.aload_n 0, 1) := by decide +kernel
theorem d_P_tryNumbers_57 : decode c_P_tryNumbers 57 = .ok (.dup, 1) := by decide +kernel
theorem d_P_tryNumbers_58 : decode c_P_tryNumbers 58 = .ok (.getfield 36, 3) := by decide +kernel
theorem d_P_tryNumbers_61 : decode c_P_tryNumbers 61 = .ok (.iconst 1, 1) := by decide +kernel
theorem d_P_tryNumbers_62 : decode c_P_tryNumbers 62 = .ok (.iadd, 1) := by decide +kernel
theorem d_P_tryNumbers_63 : decode c_P_tryNumbers 63 = .ok (.putfield 36, 3) := by decide +kernel
theorem d_P_tryNumbers_66 : decode c_P_tryNumbers 66 = .ok (.iload_n 2, 1) := by decide +kernel
theorem d_P_tryNumbers_67 : decode c_P_tryNumbers 67 = .ok (.ifCond .le (11), 3) := by decide +kernel
theorem d_P_tryNumbers_70 : decode c_P_tryNumbers 70 = .ok (.aload_n 0, 1) := by decide +kernel
theorem d_P_tryNumbers_71 : decode c_P_tryNumbers 71 = .ok (.getfield 12, 3) := by decide +kernel
theorem d_P_tryNumbers_74 : decode c_P_tryNumbers 74 = .ok (.iload_n 1, 1) := by decide +kernel
theorem d_P_tryNumbers_75 : decode c_P_tryNumbers 75 = .ok (.invokevirtual 62, 3) := by decide +kernel
theorem d_P_tryNumbers_78 : decode c_P_tryNumbers 78 = .ok (.aload_n 0, 1) := by decide +kernel
theorem d_P_tryNumbers_79 : decode c_P_tryNumbers 79 = .ok (.getfield 18, 3) := by decide +kernel
theorem d_P_tryNumbers_82 : decode c_P_tryNumbers 82 = .ok (.iload_n 1, 1) := by decide +kernel
theorem d_P_tryNumbers_83 : decode c_P_tryNumbers 83 = .ok (.iload_n 2, 1) := by decide +kernel
theorem d_P_tryNumbers_84 : decode c_P_tryNumbers 84 = .ok (.iastore, 1) := by decide +kernel
theorem d_P_tryNumbers_85 : decode c_P_tryNumbers 85 = .ok (.aload_n 0, 1) := by decide +kernel
theorem d_P_tryNumbers_86 : decode c_P_tryNumbers 86 = .ok (.iload_n 1, 1) := by decide +kernel
theorem d_P_tryNumbers_87 : decode c_P_tryNumbers 87 = .ok (.iconst 1, 1) := by decide +kernel
theorem d_P_tryNumbers_88 : decode c_P_tryNumbers 88 = .ok (.iadd, 1) := by decide +kernel
theorem d_P_tryNumbers_89 : decode c_P_tryNumbers 89 = .ok (.invokevirtual 65, 3) := by decide +kernel
theorem d_P_tryNumbers_92 : decode c_P_tryNumbers 92 = .ok (.ifCond .ne (10), 3) := by decide +kernel
theorem d_P_tryNumbers_95 : decode c_P_tryNumbers 95 = .ok (.aload_n 0, 1) := by decide +kernel
theorem d_P_tryNumbers_96 : decode c_P_tryNumbers 96 = .ok (.iload_n 1, 1) := by decide +kernel
theorem d_P_tryNumbers_97 : decode c_P_tryNumbers 97 = .ok (.iconst 1, 1) := by decide +kernel
theorem d_P_tryNumbers_98 : decode c_P_tryNumbers 98 = .ok (.iadd, 1) := by decide +kernel
theorem d_P_tryNumbers_99 : decode c_P_tryNumbers 99 = .ok (.invokevirtual 46, 3) := by decide +kernel
theorem d_P_tryNumbers_102 : decode c_P_tryNumbers 102 = .ok (.iinc 2 (1), 3) := by decide +kernel
theorem d_P_tryNumbers_105 : decode c_P_tryNumbers 105 = .ok (.goto (-79), 3) := by decide +kernel
theorem d_P_tryNumbers_108 : decode c_P_tryNumbers 108 = .ok (.return_, 1) := by decide +kernel
theorem d_P_givenUp_0 : decode c_P_givenUp 0 = .ok (.aload_n 0, 1) := by decide +kernel
theorem d_P_givenUp_1 : decode c_P_givenUp 1 = .ok (.getfield 12, 3) := by decide +kernel
theorem d_P_givenUp_4 : decode c_P_givenUp 4 = .ok (.iload_n 1, 1) := by decide +kernel
theorem d_P_givenUp_5 : decode c_P_givenUp 5 = .ok (.invokevirtual 69, 3) := by decide +kernel
theorem d_P_givenUp_8 : decode c_P_givenUp 8 = .ok (.ifCond .ne (26), 3) := by decide +kernel
theorem d_P_givenUp_11 : decode c_P_givenUp 11 = .ok (.aload_n 0, 1) := by decide +kernel
theorem d_P_givenUp_12 : decode c_P_givenUp 12 = .ok (.getfield 29, 3) := by decide +kernel
theorem d_P_givenUp_15 : decode c_P_givenUp 15 = .ok (.iconst (-1), 1) := by decide +kernel
theorem d_P_givenUp_16 : decode c_P_givenUp 16 = .ok (.if_icmp .eq (22), 3) := by decide +kernel
theorem d_P_givenUp_19 : decode c_P_givenUp 19 = .ok (.aload_n 0, 1) := by decide +kernel
theorem d_P_givenUp_20 : decode c_P_givenUp 20 = .ok (.getfield 12, 3) := by decide +kernel
theorem d_P_givenUp_23 : decode c_P_givenUp 23 = .ok (.iload_n 1, 1) := by decide +kernel
theorem d_P_givenUp_24 : decode c_P_givenUp 24 = .ok (.invokevirtual 72, 3) := by decide +kernel
theorem d_P_givenUp_27 : decode c_P_givenUp 27 = .ok (.aload_n 0, 1) := by decide +kernel
theorem d_P_givenUp_28 : decode c_P_givenUp 28 = .ok (.getfield 29, 3) := by decide +kernel
theorem d_P_givenUp_31 : decode c_P_givenUp 31 = .ok (.if_icmp .lt (7), 3) := by decide +kernel
theorem d_P_givenUp_34 : decode c_P_givenUp 34 = .ok (.iconst 1, 1) := by decide +kernel
theorem d_P_givenUp_35 : decode c_P_givenUp 35 = .ok (.goto (4), 3) := by decide +kernel
theorem d_P_givenUp_38 : decode c_P_givenUp 38 = .ok (.iconst 0, 1) := by decide +kernel
theorem d_P_givenUp_39 : decode c_P_givenUp 39 = .ok (.ireturn, 1) := by decide +kernel
theorem d_P_keepIfAllHold_0 : decode c_P_keepIfAllHold 0 = .ok (.aload_n 0, 1) := by decide +kernel
theorem d_P_keepIfAllHold_1 : decode c_P_keepIfAllHold 1 = .ok (.getfield 12, 3) := by decide +kernel
theorem d_P_keepIfAllHold_4 : decode c_P_keepIfAllHold 4 = .ok (.invokevirtual 76, 3) := by decide +kernel
theorem d_P_keepIfAllHold_7 : decode c_P_keepIfAllHold 7 = .ok (.ifCond .eq (4), 3) := by decide +kernel
theorem d_P_keepIfAllHold_10 : decode c_P_keepIfAllHold 10 = .ok (.return_, 1) := by decide +kernel
theorem d_P_keepIfAllHold_11 : decode c_P_keepIfAllHold 11 = .ok (.aload_n 0, 1) := by decide +kernel
theorem d_P_keepIfAllHold_12 : decode c_P_keepIfAllHold 12 = .ok (.aload_n 0, 1) := by decide +kernel
theorem d_P_keepIfAllHold_13 : decode c_P_keepIfAllHold 13 = .ok (.getfield 12, 3) := by decide +kernel
theorem d_P_keepIfAllHold_16 : decode c_P_keepIfAllHold 16 = .ok (.aload_n 0, 1) := by decide +kernel
theorem d_P_keepIfAllHold_17 : decode c_P_keepIfAllHold 17 = .ok (.getfield 12, 3) := by decide +kernel
theorem d_P_keepIfAllHold_20 : decode c_P_keepIfAllHold 20 = .ok (.getfield 50, 3) := by decide +kernel
theorem d_P_keepIfAllHold_23 : decode c_P_keepIfAllHold 23 = .ok (.invokevirtual 72, 3) := by decide +kernel
theorem d_P_keepIfAllHold_26 : decode c_P_keepIfAllHold 26 = .ok (.putfield 29, 3) := by decide +kernel
theorem d_P_keepIfAllHold_29 : decode c_P_keepIfAllHold 29 = .ok (.iconst 0, 1) := by decide +kernel
theorem d_P_keepIfAllHold_30 : decode c_P_keepIfAllHold 30 = .ok (.istore_n 1, 1) := by decide +kernel
theorem d_P_keepIfAllHold_31 : decode c_P_keepIfAllHold 31 = .ok (.iload_n 1, 1) := by decide +kernel
theorem d_P_keepIfAllHold_32 : decode c_P_keepIfAllHold 32 = .ok (.iconst 5, 1) := by decide +kernel
theorem d_P_keepIfAllHold_33 : decode c_P_keepIfAllHold 33 = .ok (.if_icmp .ge (21), 3) := by decide +kernel
theorem d_P_keepIfAllHold_36 : decode c_P_keepIfAllHold 36 = .ok (.aload_n 0, 1) := by decide +kernel
theorem d_P_keepIfAllHold_37 : decode c_P_keepIfAllHold 37 = .ok (.getfield 22, 3) := by decide +kernel
theorem d_P_keepIfAllHold_40 : decode c_P_keepIfAllHold 40 = .ok (.iload_n 1, 1) := by decide +kernel
theorem d_P_keepIfAllHold_41 : decode c_P_keepIfAllHold 41 = .ok (.aload_n 0, 1) := by decide +kernel
theorem d_P_keepIfAllHold_42 : decode c_P_keepIfAllHold 42 = .ok (.getfield 18, 3) := by decide +kernel
theorem d_P_keepIfAllHold_45 : decode c_P_keepIfAllHold 45 = .ok (.iload_n 1, 1) := by decide +kernel
theorem d_P_keepIfAllHold_46 : decode c_P_keepIfAllHold 46 = .ok (.iaload, 1) := by decide +kernel
theorem d_P_keepIfAllHold_47 : decode c_P_keepIfAllHold 47 = .ok (.iastore, 1) := by decide +kernel
theorem d_P_keepIfAllHold_48 : decode c_P_keepIfAllHold 48 = .ok (.iinc 1 (1), 3) := by decide +kernel
theorem d_P_keepIfAllHold_51 : decode c_P_keepIfAllHold 51 = .ok (.goto (-20), 3) := by decide +kernel
theorem d_P_keepIfAllHold_54 : decode c_P_keepIfAllHold 54 = .ok (.return_, 1) := by decide +kernel
theorem d_S_init_0 : decode c_S_init 0 = .ok (.aload_n 0, 1) := by decide +kernel
theorem d_S_init_1 : decode c_S_init 1 = .ok (.invokespecial 3, 3) := by decide +kernel
theorem d_S_init_4 : decode c_S_init 4 = .ok (.aload_n 0, 1) := by decide +kernel
theorem d_S_init_5 : decode c_S_init 5 = .ok (.iconst 5, 1) := by decide +kernel
theorem d_S_init_6 : decode c_S_init 6 = .ok (.newarray .int, 2) := by decide +kernel
theorem d_S_init_8 : decode c_S_init 8 = .ok (.putfield 9, 3) := by decide +kernel
theorem d_S_init_11 : decode c_S_init 11 = .ok (.aload_n 0, 1) := by decide +kernel
theorem d_S_init_12 : decode c_S_init 12 = .ok (.bipush (60), 2) := by decide +kernel
theorem d_S_init_14 : decode c_S_init 14 = .ok (.newarray .int, 2) := by decide +kernel
theorem d_S_init_16 : decode c_S_init 16 = .ok (.putfield 15, 3) := by decide +kernel
theorem d_S_init_19 : decode c_S_init 19 = .ok (.aload_n 0, 1) := by decide +kernel
theorem d_S_init_20 : decode c_S_init 20 = .ok (.bipush (72), 2) := by decide +kernel
theorem d_S_init_22 : decode c_S_init 22 = .ok (.newarray .int, 2) := by decide +kernel
theorem d_S_init_24 : decode c_S_init 24 = .ok (.putfield 18, 3) := by decide +kernel
theorem d_S_init_27 : decode c_S_init 27 = .ok (.return_, 1) := by decide +kernel
theorem d_S_load_0 : decode c_S_load 0 = .ok (.aload_n 0, 1) := by decide +kernel
theorem d_S_load_1 : decode c_S_load 1 = .ok (.aload_n 1, 1) := by decide +kernel
theorem d_S_load_2 : decode c_S_load 2 = .ok (.getfield 21, 3) := by decide +kernel
theorem d_S_load_5 : decode c_S_load 5 = .ok (.putfield 27, 3) := by decide +kernel
theorem d_S_load_8 : decode c_S_load 8 = .ok (.aload_n 0, 1) := by decide +kernel
theorem d_S_load_9 : decode c_S_load 9 = .ok (.getfield 18, 3) := by decide +kernel
theorem d_S_load_12 : decode c_S_load 12 = .ok (.iconst 0, 1) := by decide +kernel
theorem d_S_load_13 : decode c_S_load 13 = .ok (.aload_n 2, 1) := by decide +kernel
theorem d_S_load_14 : decode c_S_load 14 = .ok (.getfield 30, 3) := by decide +kernel
theorem d_S_load_17 : decode c_S_load 17 = .ok (.iload_n 3, 1) := by decide +kernel
theorem d_S_load_18 : decode c_S_load 18 = .ok (.iaload, 1) := by decide +kernel
theorem d_S_load_19 : decode c_S_load 19 = .ok (.iastore, 1) := by decide +kernel
theorem d_S_load_20 : decode c_S_load 20 = .ok (.aload_n 0, 1) := by decide +kernel
theorem d_S_load_21 : decode c_S_load 21 = .ok (.getfield 18, 3) := by decide +kernel
theorem d_S_load_24 : decode c_S_load 24 = .ok (.iconst 1, 1) := by decide +kernel
theorem d_S_load_25 : decode c_S_load 25 = .ok (.aload_n 2, 1) := by decide +kernel
theorem d_S_load_26 : decode c_S_load 26 = .ok (.getfield 35, 3) := by decide +kernel
theorem d_S_load_29 : decode c_S_load 29 = .ok (.iload_n 3, 1) := by decide +kernel
theorem d_S_load_30 : decode c_S_load 30 = .ok (.iaload, 1) := by decide +kernel
theorem d_S_load_31 : decode c_S_load 31 = .ok (.ineg, 1) := by decide +kernel
theorem d_S_load_32 : decode c_S_load 32 = .ok (.iastore, 1) := by decide +kernel
theorem d_S_load_33 : decode c_S_load 33 = .ok (.aload_n 0, 1) := by decide +kernel
theorem d_S_load_34 : decode c_S_load 34 = .ok (.getfield 18, 3) := by decide +kernel
theorem d_S_load_37 : decode c_S_load 37 = .ok (.bipush (10), 2) := by decide +kernel
theorem d_S_load_39 : decode c_S_load 39 = .ok (.aload_n 2, 1) := by decide +kernel
theorem d_S_load_40 : decode c_S_load 40 = .ok (.getfield 38, 3) := by decide +kernel
theorem d_S_load_43 : decode c_S_load 43 = .ok (.iload_n 3, 1) := by decide +kernel
theorem d_S_load_44 : decode c_S_load 44 = .ok (.iaload, 1) := by decide +kernel
theorem d_S_load_45 : decode c_S_load 45 = .ok (.ineg, 1) := by decide +kernel
theorem d_S_load_46 : decode c_S_load 46 = .ok (.iastore, 1) := by decide +kernel
theorem d_S_load_47 : decode c_S_load 47 = .ok (.iconst 0, 1) := by decide +kernel
theorem d_S_load_48 : decode c_S_load 48 = .ok (.istore 4, 2) := by decide +kernel
theorem d_S_load_50 : decode c_S_load 50 = .ok (.iload 4, 2) := by decide +kernel
theorem d_S_load_52 : decode c_S_load 52 = .ok (.aload_n 0, 1) := by decide +kernel
theorem d_S_load_53 : decode c_S_load 53 = .ok (.getfield 27, 3) := by decide +kernel
theorem d_S_load_56 : decode c_S_load 56 = .ok (.if_icmp .ge (104), 3) := by decide +kernel
theorem d_S_load_59 : decode c_S_load 59 = .ok (.aload_n 0, 1) := by decide +kernel
theorem d_S_load_60 : decode c_S_load 60 = .ok (.getfield 9, 3) := by decide +kernel
theorem d_S_load_63 : decode c_S_load 63 = .ok (.iload 4, 2) := by decide +kernel
theorem d_S_load_65 : decode c_S_load 65 = .ok (.aload_n 1, 1) := by decide +kernel
theorem d_S_load_66 : decode c_S_load 66 = .ok (.iload 4, 2) := by decide +kernel
theorem d_S_load_68 : decode c_S_load 68 = .ok (.invokevirtual 41, 3) := by decide +kernel
theorem d_S_load_71 : decode c_S_load 71 = .ok (.iastore, 1) := by decide +kernel
theorem d_S_load_72 : decode c_S_load 72 = .ok (.aload_n 0, 1) := by decide +kernel
theorem d_S_load_73 : decode c_S_load 73 = .ok (.getfield 15, 3) := by decide +kernel
theorem d_S_load_76 : decode c_S_load 76 = .ok (.iload 4, 2) := by decide +kernel
theorem d_S_load_78 : decode c_S_load 78 = .ok (.bipush (12), 2) := by decide +kernel
theorem d_S_load_80 : decode c_S_load 80 = .ok (.imul, 1) := by decide +kernel
theorem d_S_load_81 : decode c_S_load 81 = .ok (.iconst 0, 1) := by decide +kernel
theorem d_S_load_82 : decode c_S_load 82 = .ok (.iadd, 1) := by decide +kernel
theorem d_S_load_83 : decode c_S_load 83 = .ok (.aload_n 1, 1) := by decide +kernel
theorem d_S_load_84 : decode c_S_load 84 = .ok (.getfield 44, 3) := by decide +kernel
theorem d_S_load_87 : decode c_S_load 87 = .ok (.iload 4, 2) := by decide +kernel
theorem d_S_load_89 : decode c_S_load 89 = .ok (.iaload, 1) := by decide +kernel
theorem d_S_load_90 : decode c_S_load 90 = .ok (.ineg, 1) := by decide +kernel
theorem d_S_load_91 : decode c_S_load 91 = .ok (.iastore, 1) := by decide +kernel
theorem d_S_load_92 : decode c_S_load 92 = .ok (.aload_n 0, 1) := by decide +kernel
theorem d_S_load_93 : decode c_S_load 93 = .ok (.getfield 15, 3) := by decide +kernel
theorem d_S_load_96 : decode c_S_load 96 = .ok (.iload 4, 2) := by decide +kernel
theorem d_S_load_98 : decode c_S_load 98 = .ok (.bipush (12), 2) := by decide +kernel
theorem d_S_load_100 : decode c_S_load 100 = .ok (.imul, 1) := by decide +kernel
theorem d_S_load_101 : decode c_S_load 101 = .ok (.iconst 1, 1) := by decide +kernel
theorem d_S_load_102 : decode c_S_load 102 = .ok (.iadd, 1) := by decide +kernel
theorem d_S_load_103 : decode c_S_load 103 = .ok (.aload_n 1, 1) := by decide +kernel
theorem d_S_load_104 : decode c_S_load 104 = .ok (.getfield 44, 3) := by decide +kernel
theorem d_S_load_107 : decode c_S_load 107 = .ok (.iload 4, 2) := by decide +kernel
theorem d_S_load_109 : decode c_S_load 109 = .ok (.iaload, 1) := by decide +kernel
theorem d_S_load_110 : decode c_S_load 110 = .ok (.iastore, 1) := by decide +kernel
theorem d_S_load_111 : decode c_S_load 111 = .ok (.aload_n 0, 1) := by decide +kernel
theorem d_S_load_112 : decode c_S_load 112 = .ok (.getfield 15, 3) := by decide +kernel
theorem d_S_load_115 : decode c_S_load 115 = .ok (.iload 4, 2) := by decide +kernel
theorem d_S_load_117 : decode c_S_load 117 = .ok (.bipush (12), 2) := by decide +kernel
theorem d_S_load_119 : decode c_S_load 119 = .ok (.imul, 1) := by decide +kernel
theorem d_S_load_120 : decode c_S_load 120 = .ok (.bipush (10), 2) := by decide +kernel
theorem d_S_load_122 : decode c_S_load 122 = .ok (.iadd, 1) := by decide +kernel
theorem d_S_load_123 : decode c_S_load 123 = .ok (.iconst 1, 1) := by decide +kernel
theorem d_S_load_124 : decode c_S_load 124 = .ok (.iastore, 1) := by decide +kernel
theorem d_S_load_125 : decode c_S_load 125 = .ok (.aload_n 0, 1) := by decide +kernel
theorem d_S_load_126 : decode c_S_load 126 = .ok (.getfield 15, 3) := by decide +kernel
theorem d_S_load_129 : decode c_S_load 129 = .ok (.iload 4, 2) := by decide +kernel
theorem d_S_load_131 : decode c_S_load 131 = .ok (.bipush (12), 2) := by decide +kernel
theorem d_S_load_133 : decode c_S_load 133 = .ok (.imul, 1) := by decide +kernel
theorem d_S_load_134 : decode c_S_load 134 = .ok (.bipush (11), 2) := by decide +kernel
theorem d_S_load_136 : decode c_S_load 136 = .ok (.iadd, 1) := by decide +kernel
theorem d_S_load_137 : decode c_S_load 137 = .ok (.aload_n 1, 1) := by decide +kernel
theorem d_S_load_138 : decode c_S_load 138 = .ok (.getfield 47, 3) := by decide +kernel
theorem d_S_load_141 : decode c_S_load 141 = .ok (.iload 4, 2) := by decide +kernel
theorem d_S_load_143 : decode c_S_load 143 = .ok (.iaload, 1) := by decide +kernel
theorem d_S_load_144 : decode c_S_load 144 = .ok (.iastore, 1) := by decide +kernel
theorem d_S_load_145 : decode c_S_load 145 = .ok (.aload_n 0, 1) := by decide +kernel
theorem d_S_load_146 : decode c_S_load 146 = .ok (.aload_n 1, 1) := by decide +kernel
theorem d_S_load_147 : decode c_S_load 147 = .ok (.aload_n 2, 1) := by decide +kernel
theorem d_S_load_148 : decode c_S_load 148 = .ok (.iload 4, 2) := by decide +kernel
theorem d_S_load_150 : decode c_S_load 150 = .ok (.iload_n 3, 1) := by decide +kernel
theorem d_S_load_151 : decode c_S_load 151 = .ok (.invokevirtual 50, 3) := by decide +kernel
theorem d_S_load_154 : decode c_S_load 154 = .ok (.iinc 4 (1), 3) := by decide +kernel
theorem d_S_load_157 : decode c_S_load 157 = .ok (.goto (-107), 3) := by decide +kernel
theorem d_S_load_160 : decode c_S_load 160 = .ok (.return_, 1) := by decide +kernel
theorem d_S_loadElements_0 : decode c_S_loadElements 0 = .ok (.iconst 0, 1) := by decide +kernel
theorem d_S_loadElements_1 : decode c_S_loadElements 1 = .ok (.istore 5, 2) := by decide +kernel
theorem d_S_loadElements_3 : decode c_S_loadElements 3 = .ok (.iload 5, 2) := by decide +kernel
theorem d_S_loadElements_5 : decode c_S_loadElements 5 = .ok (.iconst 4, 1) := by decide +kernel
theorem d_S_loadElements_6 : decode c_S_loadElements 6 = .ok (.if_icmp .ge (99), 3) := by decide +kernel
theorem d_S_loadElements_9 : decode c_S_loadElements 9 = .ok (.iload_n 3, 1) := by decide +kernel
theorem d_S_loadElements_10 : decode c_S_loadElements 10 = .ok (.iconst 4, 1) := by decide +kernel
theorem d_S_loadElements_11 : decode c_S_loadElements 11 = .ok (.imul, 1) := by decide +kernel
theorem d_S_loadElements_12 : decode c_S_loadElements 12 = .ok (.iload 5, 2) := by decide +kernel
theorem d_S_loadElements_14 : decode c_S_loadElements 14 = .ok (.iadd, 1) := by decide +kernel
theorem d_S_loadElements_15 : decode c_S_loadElements 15 = .ok (.istore 6, 2) := by decide +kernel
theorem d_S_loadElements_17 : decode c_S_loadElements 17 = .ok (.iload 4, 2) := by decide +kernel
theorem d_S_loadElements_19 : decode c_S_loadElements 19 = .ok (.iconst 4, 1) := by decide +kernel
theorem d_S_loadElements_20 : decode c_S_loadElements 20 = .ok (.imul, 1) := by decide +kernel
theorem d_S_loadElements_21 : decode c_S_loadElements 21 = .ok (.iload 5, 2) := by decide +kernel
theorem d_S_loadElements_23 : decode c_S_loadElements 23 = .ok (.iadd, 1) := by decide +kernel
theorem d_S_loadElements_24 : decode c_S_loadElements 24 = .ok (.istore 7, 2) := by decide +kernel
theorem d_S_loadElements_26 : decode c_S_loadElements 26 = .ok (.iload_n 3, 1) := by decide +kernel
theorem d_S_loadElements_27 : decode c_S_loadElements 27 = .ok (.bipush (12), 2) := by decide +kernel
theorem d_S_loadElements_29 : decode c_S_loadElements 29 = .ok (.imul, 1) := by decide +kernel
theorem d_S_loadElements_30 : decode c_S_loadElements 30 = .ok (.iconst 2, 1) := by decide +kernel
theorem d_S_loadElements_31 : decode c_S_loadElements 31 = .ok (.iadd, 1) := by decide +kernel
theorem d_S_loadElements_32 : decode c_S_loadElements 32 = .ok (.iconst 2, 1) := by decide +kernel
theorem d_S_loadElements_33 : decode c_S_loadElements 33 = .ok (.iload 5, 2) := by decide +kernel
theorem d_S_loadElements_35 : decode c_S_loadElements 35 = .ok (.imul, 1) := by decide +kernel
theorem d_S_loadElements_36 : decode c_S_loadElements 36 = .ok (.iadd, 1) := by decide +kernel
theorem d_S_loadElements_37 : decode c_S_loadElements 37 = .ok (.istore 8, 2) := by decide +kernel
theorem d_S_loadElements_39 : decode c_S_loadElements 39 = .ok (.aload_n 0, 1) := by decide +kernel
theorem d_S_loadElements_40 : decode c_S_loadElements 40 = .ok (.getfield 15, 3) := by decide +kernel
theorem d_S_loadElements_43 : decode c_S_loadElements 43 = .ok (.iload 8, 2) := by decide +kernel
theorem d_S_loadElements_45 : decode c_S_loadElements 45 = .ok (.aload_n 1, 1) := by decide +kernel
theorem d_S_loadElements_46 : decode c_S_loadElements 46 = .ok (.getfield 44, 3) := by decide +kernel
theorem d_S_loadElements_49 : decode c_S_loadElements 49 = .ok (.iload_n 3, 1) := by decide +kernel
theorem d_S_loadElements_50 : decode c_S_loadElements 50 = .ok (.iaload, 1) := by decide +kernel
theorem d_S_loadElements_51 : decode c_S_loadElements 51 = .ok (.aload_n 1, 1) := by decide +kernel
theorem d_S_loadElements_52 : decode c_S_loadElements 52 = .ok (.getfield 54, 3) := by decide +kernel
theorem d_S_loadElements_55 : decode c_S_loadElements 55 = .ok (.iload 6, 2) := by decide +kernel
theorem d_S_loadElements_57 : decode c_S_loadElements 57 = .ok (.iaload, 1) := by decide +kernel
theorem d_S_loadElements_58 : decode c_S_loadElements 58 = .ok (.aload_n 2, 1) := by decide +kernel
theorem d_S_loadElements_59 : decode c_S_loadElements 59 = .ok (.getfield 57, 3) := by decide +kernel
theorem d_S_loadElements_62 : decode c_S_loadElements 62 = .ok (.iload 7, 2) := by decide +kernel
theorem d_S_loadElements_64 : decode c_S_loadElements 64 = .ok (.iaload, 1) := by decide +kernel
theorem d_S_loadElements_65 : decode c_S_loadElements 65 = .ok (.isub, 1) := by decide +kernel
theorem d_S_loadElements_66 : decode c_S_loadElements 66 = .ok (.imul, 1) := by decide +kernel
theorem d_S_loadElements_67 : decode c_S_loadElements 67 = .ok (.iastore, 1) := by decide +kernel
theorem d_S_loadElements_68 : decode c_S_loadElements 68 = .ok (.aload_n 0, 1) := by decide +kernel
theorem d_S_loadElements_69 : decode c_S_loadElements 69 = .ok (.getfield 15, 3) := by decide +kernel
theorem d_S_loadElements_72 : decode c_S_loadElements 72 = .ok (.iload 8, 2) := by decide +kernel
theorem d_S_loadElements_74 : decode c_S_loadElements 74 = .ok (.iconst 1, 1) := by decide +kernel
theorem d_S_loadElements_75 : decode c_S_loadElements 75 = .ok (.iadd, 1) := by decide +kernel
theorem d_S_loadElements_76 : decode c_S_loadElements 76 = .ok (.aload_n 1, 1) := by decide +kernel
theorem d_S_loadElements_77 : decode c_S_loadElements 77 = .ok (.getfield 44, 3) := by decide +kernel
theorem d_S_loadElements_80 : decode c_S_loadElements 80 = .ok (.iload_n 3, 1) := by decide +kernel
theorem d_S_loadElements_81 : decode c_S_loadElements 81 = .ok (.iaload, 1) := by decide +kernel
theorem d_S_loadElements_82 : decode c_S_loadElements 82 = .ok (.aload_n 2, 1) := by decide +kernel
theorem d_S_loadElements_83 : decode c_S_loadElements 83 = .ok (.getfield 58, 3) := by decide +kernel
theorem d_S_loadElements_86 : decode c_S_loadElements 86 = .ok (.iload 7, 2) := by decide +kernel
theorem d_S_loadElements_88 : decode c_S_loadElements 88 = .ok (.iaload, 1) := by decide +kernel
theorem d_S_loadElements_89 : decode c_S_loadElements 89 = .ok (.aload_n 1, 1) := by decide +kernel
theorem d_S_loadElements_90 : decode c_S_loadElements 90 = .ok (.getfield 61, 3) := by decide +kernel
theorem d_S_loadElements_93 : decode c_S_loadElements 93 = .ok (.iload 6, 2) := by decide +kernel
theorem d_S_loadElements_95 : decode c_S_loadElements 95 = .ok (.iaload, 1) := by decide +kernel
theorem d_S_loadElements_96 : decode c_S_loadElements 96 = .ok (.isub, 1) := by decide +kernel
theorem d_S_loadElements_97 : decode c_S_loadElements 97 = .ok (.imul, 1) := by decide +kernel
theorem d_S_loadElements_98 : decode c_S_loadElements 98 = .ok (.iastore, 1) := by decide +kernel
theorem d_S_loadElements_99 : decode c_S_loadElements 99 = .ok (.iinc 5 (1), 3) := by decide +kernel
theorem d_S_loadElements_102 : decode c_S_loadElements 102 = .ok (.goto (-99), 3) := by decide +kernel
theorem d_S_loadElements_105 : decode c_S_loadElements 105 = .ok (.return_, 1) := by decide +kernel
theorem d_S_settle_0 : decode c_S_settle 0 = .ok (.iload_n 1, 1) := by decide +kernel
theorem d_S_settle_1 : decode c_S_settle 1 = .ok (.bipush (12), 2) := by decide +kernel
theorem d_S_settle_3 : decode c_S_settle 3 = .ok (.imul, 1) := by decide +kernel
theorem d_S_settle_4 : decode c_S_settle 4 = .ok (.istore_n 2, 1) := by decide +kernel
theorem d_S_settle_5 : decode c_S_settle 5 = .ok (.iconst 0, 1) := by decide +kernel
theorem d_S_settle_6 : decode c_S_settle 6 = .ok (.istore_n 3, 1) := by decide +kernel
theorem d_S_settle_7 : decode c_S_settle 7 = .ok (.iload_n 3, 1) := by decide +kernel
theorem d_S_settle_8 : decode c_S_settle 8 = .ok (.bipush (12), 2) := by decide +kernel
theorem d_S_settle_10 : decode c_S_settle 10 = .ok (.if_icmp .ge (28), 3) := by decide +kernel
theorem d_S_settle_13 : decode c_S_settle 13 = .ok (.aload_n 0, 1) := by decide +kernel
theorem d_S_settle_14 : decode c_S_settle 14 = .ok (.getfield 18, 3) := by decide +kernel
theorem d_S_settle_17 : decode c_S_settle 17 = .ok (.iload_n 2, 1) := by decide +kernel
theorem d_S_settle_18 : decode c_S_settle 18 = .ok (.bipush (12), 2) := by decide +kernel
theorem d_S_settle_20 : decode c_S_settle 20 = .ok (.iadd, 1) := by decide +kernel
theorem d_S_settle_21 : decode c_S_settle 21 = .ok (.iload_n 3, 1) := by decide +kernel
theorem d_S_settle_22 : decode c_S_settle 22 = .ok (.iadd, 1) := by decide +kernel
theorem d_S_settle_23 : decode c_S_settle 23 = .ok (.aload_n 0, 1) := by decide +kernel
theorem d_S_settle_24 : decode c_S_settle 24 = .ok (.getfield 18, 3) := by decide +kernel
theorem d_S_settle_27 : decode c_S_settle 27 = .ok (.iload_n 2, 1) := by decide +kernel
theorem d_S_settle_28 : decode c_S_settle 28 = .ok (.iload_n 3, 1) := by decide +kernel
theorem d_S_settle_29 : decode c_S_settle 29 = .ok (.iadd, 1) := by decide +kernel
theorem d_S_settle_30 : decode c_S_settle 30 = .ok (.iaload, 1) := by decide +kernel
theorem d_S_settle_31 : decode c_S_settle 31 = .ok (.iastore, 1) := by decide +kernel
theorem d_S_settle_32 : decode c_S_settle 32 = .ok (.iinc 3 (1), 3) := by decide +kernel
theorem d_S_settle_35 : decode c_S_settle 35 = .ok (.goto (-28), 3) := by decide +kernel
theorem d_S_settle_38 : decode c_S_settle 38 = .ok (.return_, 1) := by decide +kernel
theorem d_S_addBundle_0 : decode c_S_addBundle 0 = .ok (.iload_n 1, 1) := by decide +kernel
theorem d_S_addBundle_1 : decode c_S_addBundle 1 = .ok (.bipush (12), 2) := by decide +kernel
theorem d_S_addBundle_3 : decode c_S_addBundle 3 = .ok (.imul, 1) := by decide +kernel
theorem d_S_addBundle_4 : decode c_S_addBundle 4 = .ok (.istore_n 2, 1) := by decide +kernel
theorem d_S_addBundle_5 : decode c_S_addBundle 5 = .ok (.iconst 0, 1) := by decide +kernel
theorem d_S_addBundle_6 : decode c_S_addBundle 6 = .ok (.istore_n 3, 1) := by decide +kernel
theorem d_S_addBundle_7 : decode c_S_addBundle 7 = .ok (.iload_n 3, 1) := by decide +kernel
theorem d_S_addBundle_8 : decode c_S_addBundle 8 = .ok (.bipush (12), 2) := by decide +kernel
theorem d_S_addBundle_10 : decode c_S_addBundle 10 = .ok (.if_icmp .ge (31), 3) := by decide +kernel
theorem d_S_addBundle_13 : decode c_S_addBundle 13 = .ok (.aload_n 0, 1) := by decide +kernel
theorem d_S_addBundle_14 : decode c_S_addBundle 14 = .ok (.getfield 18, 3) := by decide +kernel
theorem d_S_addBundle_17 : decode c_S_addBundle 17 = .ok (.iload_n 2, 1) := by decide +kernel
theorem d_S_addBundle_18 : decode c_S_addBundle 18 = .ok (.bipush (12), 2) := by decide +kernel
theorem d_S_addBundle_20 : decode c_S_addBundle 20 = .ok (.iadd, 1) := by decide +kernel
theorem d_S_addBundle_21 : decode c_S_addBundle 21 = .ok (.iload_n 3, 1) := by decide +kernel
theorem d_S_addBundle_22 : decode c_S_addBundle 22 = .ok (.iadd, 1) := by decide +kernel
theorem d_S_addBundle_23 : decode c_S_addBundle 23 = .ok (.dup2, 1) := by decide +kernel
theorem d_S_addBundle_24 : decode c_S_addBundle 24 = .ok (.iaload, 1) := by decide +kernel
theorem d_S_addBundle_25 : decode c_S_addBundle 25 = .ok (.aload_n 0, 1) := by decide +kernel
theorem d_S_addBundle_26 : decode c_S_addBundle 26 = .ok (.getfield 15, 3) := by decide +kernel
theorem d_S_addBundle_29 : decode c_S_addBundle 29 = .ok (.iload_n 2, 1) := by decide +kernel
theorem d_S_addBundle_30 : decode c_S_addBundle 30 = .ok (.iload_n 3, 1) := by decide +kernel
theorem d_S_addBundle_31 : decode c_S_addBundle 31 = .ok (.iadd, 1) := by decide +kernel
theorem d_S_addBundle_32 : decode c_S_addBundle 32 = .ok (.iaload, 1) := by decide +kernel
theorem d_S_addBundle_33 : decode c_S_addBundle 33 = .ok (.iadd, 1) := by decide +kernel
theorem d_S_addBundle_34 : decode c_S_addBundle 34 = .ok (.iastore, 1) := by decide +kernel
theorem d_S_addBundle_35 : decode c_S_addBundle 35 = .ok (.iinc 3 (1), 3) := by decide +kernel
theorem d_S_addBundle_38 : decode c_S_addBundle 38 = .ok (.goto (-31), 3) := by decide +kernel
theorem d_S_addBundle_41 : decode c_S_addBundle 41 = .ok (.return_, 1) := by decide +kernel
theorem d_S_cents_0 : decode c_S_cents 0 = .ok (.aload_n 0, 1) := by decide +kernel
theorem d_S_cents_1 : decode c_S_cents 1 = .ok (.getfield 18, 3) := by decide +kernel
theorem d_S_cents_4 : decode c_S_cents 4 = .ok (.iload_n 1, 1) := by decide +kernel
theorem d_S_cents_5 : decode c_S_cents 5 = .ok (.bipush (12), 2) := by decide +kernel
theorem d_S_cents_7 : decode c_S_cents 7 = .ok (.imul, 1) := by decide +kernel
theorem d_S_cents_8 : decode c_S_cents 8 = .ok (.bipush (11), 2) := by decide +kernel
theorem d_S_cents_10 : decode c_S_cents 10 = .ok (.iadd, 1) := by decide +kernel
theorem d_S_cents_11 : decode c_S_cents 11 = .ok (.iaload, 1) := by decide +kernel
theorem d_S_cents_12 : decode c_S_cents 12 = .ok (.ireturn, 1) := by decide +kernel
theorem d_S_tooHeavy_0 : decode c_S_tooHeavy 0 = .ok (.aload_n 0, 1) := by decide +kernel
theorem d_S_tooHeavy_1 : decode c_S_tooHeavy 1 = .ok (.getfield 18, 3) := by decide +kernel
theorem d_S_tooHeavy_4 : decode c_S_tooHeavy 4 = .ok (.iload_n 1, 1) := by decide +kernel
theorem d_S_tooHeavy_5 : decode c_S_tooHeavy 5 = .ok (.bipush (12), 2) := by decide +kernel
theorem d_S_tooHeavy_7 : decode c_S_tooHeavy 7 = .ok (.imul, 1) := by decide +kernel
theorem d_S_tooHeavy_8 : decode c_S_tooHeavy 8 = .ok (.iconst 1, 1) := by decide +kernel
theorem d_S_tooHeavy_9 : decode c_S_tooHeavy 9 = .ok (.iadd, 1) := by decide +kernel
theorem d_S_tooHeavy_10 : decode c_S_tooHeavy 10 = .ok (.iaload, 1) := by decide +kernel
theorem d_S_tooHeavy_11 : decode c_S_tooHeavy 11 = .ok (.ifCond .le (7), 3) := by decide +kernel
theorem d_S_tooHeavy_14 : decode c_S_tooHeavy 14 = .ok (.iconst 1, 1) := by decide +kernel
theorem d_S_tooHeavy_15 : decode c_S_tooHeavy 15 = .ok (.goto (4), 3) := by decide +kernel
theorem d_S_tooHeavy_18 : decode c_S_tooHeavy 18 = .ok (.iconst 0, 1) := by decide +kernel
theorem d_S_tooHeavy_19 : decode c_S_tooHeavy 19 = .ok (.ireturn, 1) := by decide +kernel
theorem d_S_broken_0 : decode c_S_broken 0 = .ok (.iconst 0, 1) := by decide +kernel
theorem d_S_broken_1 : decode c_S_broken 1 = .ok (.istore_n 1, 1) := by decide +kernel
theorem d_S_broken_2 : decode c_S_broken 2 = .ok (.iconst 0, 1) := by decide +kernel
theorem d_S_broken_3 : decode c_S_broken 3 = .ok (.istore_n 2, 1) := by decide +kernel
theorem d_S_broken_4 : decode c_S_broken 4 = .ok (.iload_n 2, 1) := by decide +kernel
theorem d_S_broken_5 : decode c_S_broken 5 = .ok (.bipush (11), 2) := by decide +kernel
theorem d_S_broken_7 : decode c_S_broken 7 = .ok (.if_icmp .ge (32), 3) := by decide +kernel
theorem d_S_broken_10 : decode c_S_broken 10 = .ok (.aload_n 0, 1) := by decide +kernel
theorem d_S_broken_11 : decode c_S_broken 11 = .ok (.getfield 18, 3) := by decide +kernel
theorem d_S_broken_14 : decode c_S_broken 14 = .ok (.aload_n 0, 1) := by decide +kernel
theorem d_S_broken_15 : decode c_S_broken 15 = .ok (.getfield 27, 3) := by decide +kernel
theorem d_S_broken_18 : decode c_S_broken 18 = .ok (.bipush (12), 2) := by decide +kernel
theorem d_S_broken_20 : decode c_S_broken 20 = .ok (.imul, 1) := by decide +kernel
theorem d_S_broken_21 : decode c_S_broken 21 = .ok (.iload_n 2, 1) := by decide +kernel
theorem d_S_broken_22 : decode c_S_broken 22 = .ok (.iadd, 1) := by decide +kernel
theorem d_S_broken_23 : decode c_S_broken 23 = .ok (.iaload, 1) := by decide +kernel
theorem d_S_broken_24 : decode c_S_broken 24 = .ok (.ifCond .le (9), 3) := by decide +kernel
theorem d_S_broken_27 : decode c_S_broken 27 = .ok (.iload_n 1, 1) := by decide +kernel
theorem d_S_broken_28 : decode c_S_broken 28 = .ok (.iconst 1, 1) := by decide +kernel
theorem d_S_broken_29 : decode c_S_broken 29 = .ok (.iload_n 2, 1) := by decide +kernel
theorem d_S_broken_30 : decode c_S_broken 30 = .ok (.ishl, 1) := by decide +kernel
theorem d_S_broken_31 : decode c_S_broken 31 = .ok (.ior, 1) := by decide +kernel
theorem d_S_broken_32 : decode c_S_broken 32 = .ok (.istore_n 1, 1) := by decide +kernel
theorem d_S_broken_33 : decode c_S_broken 33 = .ok (.iinc 2 (1), 3) := by decide +kernel
theorem d_S_broken_36 : decode c_S_broken 36 = .ok (.goto (-32), 3) := by decide +kernel
theorem d_S_broken_39 : decode c_S_broken 39 = .ok (.iload_n 1, 1) := by decide +kernel
theorem d_S_broken_40 : decode c_S_broken 40 = .ok (.ireturn, 1) := by decide +kernel
