theorem d_M_init_0 : decode c_M_init 0 = .ok (.aload_n 0, 1) := by decide +kernel
theorem d_M_init_1 : decode c_M_init 1 = .ok (.invokespecial 1, 3) := by decide +kernel
theorem d_M_init_4 : decode c_M_init 4 = .ok (.aload_n 0, 1) := by decide +kernel
theorem d_M_init_5 : decode c_M_init 5 = .ok (.iconst 5, 1) := by decide +kernel
theorem d_M_init_6 : decode c_M_init 6 = .ok (.newarray .int, 2) := by decide +kernel
theorem d_M_init_8 : decode c_M_init 8 = .ok (.putfield 7, 3) := by decide +kernel
theorem d_M_init_11 : decode c_M_init 11 = .ok (.aload_n 0, 1) := by decide +kernel
theorem d_M_init_12 : decode c_M_init 12 = .ok (.iconst 5, 1) := by decide +kernel
theorem d_M_init_13 : decode c_M_init 13 = .ok (.newarray .int, 2) := by decide +kernel
theorem d_M_init_15 : decode c_M_init 15 = .ok (.putfield 13, 3) := by decide +kernel
theorem d_M_init_18 : decode c_M_init 18 = .ok (.aload_n 0, 1) := by decide +kernel
theorem d_M_init_19 : decode c_M_init 19 = .ok (.iconst 5, 1) := by decide +kernel
theorem d_M_init_20 : decode c_M_init 20 = .ok (.newarray .int, 2) := by decide +kernel
theorem d_M_init_22 : decode c_M_init 22 = .ok (.putfield 16, 3) := by decide +kernel
theorem d_M_init_25 : decode c_M_init 25 = .ok (.aload_n 0, 1) := by decide +kernel
theorem d_M_init_26 : decode c_M_init 26 = .ok (.iconst 5, 1) := by decide +kernel
theorem d_M_init_27 : decode c_M_init 27 = .ok (.newarray .int, 2) := by decide +kernel
theorem d_M_init_29 : decode c_M_init 29 = .ok (.putfield 19, 3) := by decide +kernel
theorem d_M_init_32 : decode c_M_init 32 = .ok (.aload_n 0, 1) := by decide +kernel
theorem d_M_init_33 : decode c_M_init 33 = .ok (.bipush (20), 2) := by decide +kernel
theorem d_M_init_35 : decode c_M_init 35 = .ok (.newarray .int, 2) := by decide +kernel
theorem d_M_init_37 : decode c_M_init 37 = .ok (.putfield 22, 3) := by decide +kernel
theorem d_M_init_40 : decode c_M_init 40 = .ok (.aload_n 0, 1) := by decide +kernel
theorem d_M_init_41 : decode c_M_init 41 = .ok (.bipush (20), 2) := by decide +kernel
theorem d_M_init_43 : decode c_M_init 43 = .ok (.newarray .int, 2) := by decide +kernel
theorem d_M_init_45 : decode c_M_init 45 = .ok (.putfield 25, 3) := by decide +kernel
theorem d_M_init_48 : decode c_M_init 48 = .ok (.aload_n 0, 1) := by decide +kernel
theorem d_M_init_49 : decode c_M_init 49 = .ok (.iconst 4, 1) := by decide +kernel
theorem d_M_init_50 : decode c_M_init 50 = .ok (.newarray .int, 2) := by decide +kernel
theorem d_M_init_52 : decode c_M_init 52 = .ok (.putfield 28, 3) := by decide +kernel
theorem d_M_init_55 : decode c_M_init 55 = .ok (.aload_n 0, 1) := by decide +kernel
theorem d_M_init_56 : decode c_M_init 56 = .ok (.iconst 4, 1) := by decide +kernel
theorem d_M_init_57 : decode c_M_init 57 = .ok (.newarray .int, 2) := by decide +kernel
theorem d_M_init_59 : decode c_M_init 59 = .ok (.putfield 31, 3) := by decide +kernel
theorem d_M_init_62 : decode c_M_init 62 = .ok (.aload_n 0, 1) := by decide +kernel
theorem d_M_init_63 : decode c_M_init 63 = .ok (.iconst 4, 1) := by decide +kernel
theorem d_M_init_64 : decode c_M_init 64 = .ok (.newarray .int, 2) := by decide +kernel
theorem d_M_init_66 : decode c_M_init 66 = .ok (.putfield 34, 3) := by decide +kernel
theorem d_M_init_69 : decode c_M_init 69 = .ok (.aload_n 0, 1) := by decide +kernel
theorem d_M_init_70 : decode c_M_init 70 = .ok (.bipush (16), 2) := by decide +kernel
theorem d_M_init_72 : decode c_M_init 72 = .ok (.newarray .int, 2) := by decide +kernel
theorem d_M_init_74 : decode c_M_init 74 = .ok (.putfield 37, 3) := by decide +kernel
theorem d_M_init_77 : decode c_M_init 77 = .ok (.aload_n 0, 1) := by decide +kernel
theorem d_M_init_78 : decode c_M_init 78 = .ok (.bipush (16), 2) := by decide +kernel
theorem d_M_init_80 : decode c_M_init 80 = .ok (.newarray .int, 2) := by decide +kernel
theorem d_M_init_82 : decode c_M_init 82 = .ok (.putfield 40, 3) := by decide +kernel
theorem d_M_init_85 : decode c_M_init 85 = .ok (.aload_n 0, 1) := by decide +kernel
theorem d_M_init_86 : decode c_M_init 86 = .ok (.iconst 4, 1) := by decide +kernel
theorem d_M_init_87 : decode c_M_init 87 = .ok (.newarray .int, 2) := by decide +kernel
theorem d_M_init_89 : decode c_M_init 89 = .ok (.dup, 1) := by decide +kernel
theorem d_M_init_90 : decode c_M_init 90 = .ok (.iconst 0, 1) := by decide +kernel
theorem d_M_init_91 : decode c_M_init 91 = .ok (.iconst (-1), 1) := by decide +kernel
theorem d_M_init_92 : decode c_M_init 92 = .ok (.iastore, 1) := by decide +kernel
theorem d_M_init_93 : decode c_M_init 93 = .ok (.dup, 1) := by decide +kernel
theorem d_M_init_94 : decode c_M_init 94 = .ok (.iconst 1, 1) := by decide +kernel
theorem d_M_init_95 : decode c_M_init 95 = .ok (.iconst (-1), 1) := by decide +kernel
theorem d_M_init_96 : decode c_M_init 96 = .ok (.iastore, 1) := by decide +kernel
theorem d_M_init_97 : decode c_M_init 97 = .ok (.dup, 1) := by decide +kernel
theorem d_M_init_98 : decode c_M_init 98 = .ok (.iconst 2, 1) := by decide +kernel
theorem d_M_init_99 : decode c_M_init 99 = .ok (.iconst (-1), 1) := by decide +kernel
theorem d_M_init_100 : decode c_M_init 100 = .ok (.iastore, 1) := by decide +kernel
theorem d_M_init_101 : decode c_M_init 101 = .ok (.dup, 1) := by decide +kernel
theorem d_M_init_102 : decode c_M_init 102 = .ok (.iconst 3, 1) := by decide +kernel
theorem d_M_init_103 : decode c_M_init 103 = .ok (.iconst (-1), 1) := by decide +kernel
theorem d_M_init_104 : decode c_M_init 104 = .ok (.iastore, 1) := by decide +kernel
theorem d_M_init_105 : decode c_M_init 105 = .ok (.putfield 43, 3) := by decide +kernel
theorem d_M_init_108 : decode c_M_init 108 = .ok (.aload_n 0, 1) := by decide +kernel
theorem d_M_init_109 : decode c_M_init 109 = .ok (.bipush (20), 2) := by decide +kernel
theorem d_M_init_111 : decode c_M_init 111 = .ok (.newarray .int, 2) := by decide +kernel
theorem d_M_init_113 : decode c_M_init 113 = .ok (.putfield 46, 3) := by decide +kernel
theorem d_M_init_116 : decode c_M_init 116 = .ok (.aload_n 0, 1) := by decide +kernel
theorem d_M_init_117 : decode c_M_init 117 = .ok (.iconst 5, 1) := by decide +kernel
theorem d_M_init_118 : decode c_M_init 118 = .ok (.newarray .int, 2) := by decide +kernel
theorem d_M_init_120 : decode c_M_init 120 = .ok (.putfield 49, 3) := by decide +kernel
theorem d_M_init_123 : decode c_M_init 123 = .ok (.aload_n 0, 1) := by decide +kernel
theorem d_M_init_124 : decode c_M_init 124 = .ok (.sipush (2048), 3) := by decide +kernel
theorem d_M_init_127 : decode c_M_init 127 = .ok (.newarray .boolean, 2) := by decide +kernel
theorem d_M_init_129 : decode c_M_init 129 = .ok (.putfield 52, 3) := by decide +kernel
theorem d_M_init_132 : decode c_M_init 132 = .ok (.return_, 1) := by decide +kernel
theorem d_M_thrown_0 : decode c_M_thrown 0 = .ok (.aload_n 0, 1) := by decide +kernel
theorem d_M_thrown_1 : decode c_M_thrown 1 = .ok (.getfield 56, 3) := by decide +kernel
theorem d_M_thrown_4 : decode c_M_thrown 4 = .ok (.ireturn, 1) := by decide +kernel
theorem d_M_throwing_0 : decode c_M_throwing 0 = .ok (.aload_n 0, 1) := by decide +kernel
theorem d_M_throwing_1 : decode c_M_throwing 1 = .ok (.iload_n 1, 1) := by decide +kernel
theorem d_M_throwing_2 : decode c_M_throwing 2 = .ok (.ifCond .eq (7), 3) := by decide +kernel
theorem d_M_throwing_5 : decode c_M_throwing 5 = .ok (.iconst 1, 1) := by decide +kernel
theorem d_M_throwing_6 : decode c_M_throwing 6 = .ok (.goto (20), 3) := by decide +kernel
theorem d_M_throwing_9 : decode c_M_throwing 9 = .ok (.iload_n 2, 1) := by decide +kernel
theorem d_M_throwing_10 : decode c_M_throwing 10 = .ok (.ifCond .eq (7), 3) := by decide +kernel
theorem d_M_throwing_13 : decode c_M_throwing 13 = .ok (.iconst 2, 1) := by decide +kernel
theorem d_M_throwing_14 : decode c_M_throwing 14 = .ok (.goto (12), 3) := by decide +kernel
theorem d_M_throwing_17 : decode c_M_throwing 17 = .ok (.iload_n 3, 1) := by decide +kernel
theorem d_M_throwing_18 : decode c_M_throwing 18 = .ok (.ifCond .eq (7), 3) := by decide +kernel
theorem d_M_throwing_21 : decode c_M_throwing 21 = .ok (.iconst 3, 1) := by decide +kernel
theorem d_M_throwing_22 : decode c_M_throwing 22 = .ok (.goto (4), 3) := by decide +kernel
theorem d_M_throwing_25 : decode c_M_throwing 25 = .ok (.iconst 0, 1) := by decide +kernel
theorem d_M_throwing_26 : decode c_M_throwing 26 = .ok (.putfield 56, 3) := by decide +kernel
theorem d_M_throwing_29 : decode c_M_throwing 29 = .ok (.aload_n 0, 1) := by decide +kernel
theorem d_M_throwing_30 : decode c_M_throwing 30 = .ok (.getfield 56, 3) := by decide +kernel
theorem d_M_throwing_33 : decode c_M_throwing 33 = .ok (.ifCond .le (7), 3) := by decide +kernel
theorem d_M_throwing_36 : decode c_M_throwing 36 = .ok (.iconst 1, 1) := by decide +kernel
theorem d_M_throwing_37 : decode c_M_throwing 37 = .ok (.goto (4), 3) := by decide +kernel
theorem d_M_throwing_40 : decode c_M_throwing 40 = .ok (.iconst 0, 1) := by decide +kernel
theorem d_M_throwing_41 : decode c_M_throwing 41 = .ok (.ireturn, 1) := by decide +kernel
theorem d_M_in_0 : decode c_M_in 0 = .ok (.lload_n 0, 1) := by decide +kernel
theorem d_M_in_1 : decode c_M_in 1 = .ok (.lload_n 2, 1) := by decide +kernel
theorem d_M_in_2 : decode c_M_in 2 = .ok (.lcmp, 1) := by decide +kernel
theorem d_M_in_3 : decode c_M_in 3 = .ok (.ifCond .lt (14), 3) := by decide +kernel
theorem d_M_in_6 : decode c_M_in 6 = .ok (.lload_n 0, 1) := by decide +kernel
theorem d_M_in_7 : decode c_M_in 7 = .ok (.lload 4, 2) := by decide +kernel
theorem d_M_in_9 : decode c_M_in 9 = .ok (.lcmp, 1) := by decide +kernel
theorem d_M_in_10 : decode c_M_in 10 = .ok (.ifCond .gt (7), 3) := by decide +kernel
theorem d_M_in_13 : decode c_M_in 13 = .ok (.iconst 1, 1) := by decide +kernel
theorem d_M_in_14 : decode c_M_in 14 = .ok (.goto (4), 3) := by decide +kernel
theorem d_M_in_17 : decode c_M_in 17 = .ok (.iconst 0, 1) := by decide +kernel
theorem d_M_in_18 : decode c_M_in 18 = .ok (.ireturn, 1) := by decide +kernel
theorem d_M_isGood_0 : decode c_M_isGood 0 = .ok (.iload_n 1, 1) := by decide +kernel
theorem d_M_isGood_1 : decode c_M_isGood 1 = .ok (.i2l, 1) := by decide +kernel
theorem d_M_isGood_2 : decode c_M_isGood 2 = .ok (.lconst 0, 1) := by decide +kernel
theorem d_M_isGood_3 : decode c_M_isGood 3 = .ok (.aload_n 0, 1) := by decide +kernel
theorem d_M_isGood_4 : decode c_M_isGood 4 = .ok (.getfield 60, 3) := by decide +kernel
theorem d_M_isGood_7 : decode c_M_isGood 7 = .ok (.iconst 1, 1) := by decide +kernel
theorem d_M_isGood_8 : decode c_M_isGood 8 = .ok (.isub, 1) := by decide +kernel
theorem d_M_isGood_9 : decode c_M_isGood 9 = .ok (.i2l, 1) := by decide +kernel
theorem d_M_isGood_10 : decode c_M_isGood 10 = .ok (.invokestatic 63, 3) := by decide +kernel
theorem d_M_isGood_13 : decode c_M_isGood 13 = .ok (.ireturn, 1) := by decide +kernel
theorem d_M_isHeat_0 : decode c_M_isHeat 0 = .ok (.iload_n 1, 1) := by decide +kernel
theorem d_M_isHeat_1 : decode c_M_isHeat 1 = .ok (.i2l, 1) := by decide +kernel
theorem d_M_isHeat_2 : decode c_M_isHeat 2 = .ok (.lconst 0, 1) := by decide +kernel
theorem d_M_isHeat_3 : decode c_M_isHeat 3 = .ok (.aload_n 0, 1) := by decide +kernel
theorem d_M_isHeat_4 : decode c_M_isHeat 4 = .ok (.getfield 67, 3) := by decide +kernel
theorem d_M_isHeat_7 : decode c_M_isHeat 7 = .ok (.iconst 1, 1) := by decide +kernel
theorem d_M_isHeat_8 : decode c_M_isHeat 8 = .ok (.isub, 1) := by decide +kernel
theorem d_M_isHeat_9 : decode c_M_isHeat 9 = .ok (.i2l, 1) := by decide +kernel
theorem d_M_isHeat_10 : decode c_M_isHeat 10 = .ok (.invokestatic 63, 3) := by decide +kernel
theorem d_M_isHeat_13 : decode c_M_isHeat 13 = .ok (.ireturn, 1) := by decide +kernel
theorem d_M_good_0 : decode c_M_good 0 = .ok (.aload_n 0, 1) := by decide +kernel
theorem d_M_good_1 : decode c_M_good 1 = .ok (.aload_n 0, 1) := by decide +kernel
theorem d_M_good_2 : decode c_M_good 2 = .ok (.getfield 60, 3) := by decide +kernel
theorem d_M_good_5 : decode c_M_good 5 = .ok (.iconst 5, 1) := by decide +kernel
theorem d_M_good_6 : decode c_M_good 6 = .ok (.if_icmp .ne (7), 3) := by decide +kernel
theorem d_M_good_9 : decode c_M_good 9 = .ok (.iconst 1, 1) := by decide +kernel
theorem d_M_good_10 : decode c_M_good 10 = .ok (.goto (4), 3) := by decide +kernel
theorem d_M_good_13 : decode c_M_good 13 = .ok (.iconst 0, 1) := by decide +kernel
theorem d_M_good_14 : decode c_M_good 14 = .ok (.iload_n 1, 1) := by decide +kernel
theorem d_M_good_15 : decode c_M_good 15 = .ok (.i2l, 1) := by decide +kernel
theorem d_M_good_16 : decode c_M_good 16 = .ok (.lconst 1, 1) := by decide +kernel
theorem d_M_good_17 : decode c_M_good 17 = .ok (.ldc2_w 70, 3) := by decide +kernel
theorem d_M_good_20 : decode c_M_good 20 = .ok (.invokestatic 63, 3) := by decide +kernel
theorem d_M_good_23 : decode c_M_good 23 = .ok (.ifCond .eq (27), 3) := by decide +kernel
theorem d_M_good_26 : decode c_M_good 26 = .ok (.iload_n 2, 1) := by decide +kernel
theorem d_M_good_27 : decode c_M_good 27 = .ok (.i2l, 1) := by decide +kernel
theorem d_M_good_28 : decode c_M_good 28 = .ok (.lconst 0, 1) := by decide +kernel
theorem d_M_good_29 : decode c_M_good 29 = .ok (.ldc2_w 72, 3) := by decide +kernel
theorem d_M_good_32 : decode c_M_good 32 = .ok (.invokestatic 63, 3) := by decide +kernel
theorem d_M_good_35 : decode c_M_good 35 = .ok (.ifCond .eq (15), 3) := by decide +kernel
theorem d_M_good_38 : decode c_M_good 38 = .ok (.iload_n 3, 1) := by decide +kernel
theorem d_M_good_39 : decode c_M_good 39 = .ok (.i2l, 1) := by decide +kernel
theorem d_M_good_40 : decode c_M_good 40 = .ok (.lconst 0, 1) := by decide +kernel
theorem d_M_good_41 : decode c_M_good 41 = .ok (.ldc2_w 74, 3) := by decide +kernel
theorem d_M_good_44 : decode c_M_good 44 = .ok (.invokestatic 63, 3) := by decide +kernel
theorem d_M_good_47 : decode c_M_good 47 = .ok (.ifCond .ne (7), 3) := by decide +kernel
theorem d_M_good_50 : decode c_M_good 50 = .ok (.iconst 1, 1) := by decide +kernel
theorem d_M_good_51 : decode c_M_good 51 = .ok (.goto (4), 3) := by decide +kernel
theorem d_M_good_54 : decode c_M_good 54 = .ok (.iconst 0, 1) := by decide +kernel
theorem d_M_good_55 : decode c_M_good 55 = .ok (.iconst 0, 1) := by decide +kernel
theorem d_M_good_56 : decode c_M_good 56 = .ok (.invokevirtual 76, 3) := by decide +kernel
theorem d_M_good_59 : decode c_M_good 59 = .ok (.ifCond .eq (5), 3) := by decide +kernel
theorem d_M_good_62 : decode c_M_good 62 = .ok (.iconst 0, 1) := by decide +kernel
theorem d_M_good_63 : decode c_M_good 63 = .ok (.ireturn, 1) := by decide +kernel
theorem d_M_good_64 : decode c_M_good 64 = .ok (.aload_n 0, 1) := by decide +kernel
theorem d_M_good_65 : decode c_M_good 65 = .ok (.getfield 7, 3) := by decide +kernel
theorem d_M_good_68 : decode c_M_good 68 = .ok (.aload_n 0, 1) := by decide +kernel
theorem d_M_good_69 : decode c_M_good 69 = .ok (.getfield 60, 3) := by decide +kernel
theorem d_M_good_72 : decode c_M_good 72 = .ok (.iload_n 1, 1) := by decide +kernel
theorem d_M_good_73 : decode c_M_good 73 = .ok (.iastore, 1) := by decide +kernel
theorem d_M_good_74 : decode c_M_good 74 = .ok (.aload_n 0, 1) := by decide +kernel
theorem d_M_good_75 : decode c_M_good 75 = .ok (.getfield 13, 3) := by decide +kernel
theorem d_M_good_78 : decode c_M_good 78 = .ok (.aload_n 0, 1) := by decide +kernel
theorem d_M_good_79 : decode c_M_good 79 = .ok (.getfield 60, 3) := by decide +kernel
theorem d_M_good_82 : decode c_M_good 82 = .ok (.iload_n 2, 1) := by decide +kernel
theorem d_M_good_83 : decode c_M_good 83 = .ok (.iastore, 1) := by decide +kernel
theorem d_M_good_84 : decode c_M_good 84 = .ok (.aload_n 0, 1) := by decide +kernel
theorem d_M_good_85 : decode c_M_good 85 = .ok (.getfield 16, 3) := by decide +kernel
theorem d_M_good_88 : decode c_M_good 88 = .ok (.aload_n 0, 1) := by decide +kernel
theorem d_M_good_89 : decode c_M_good 89 = .ok (.getfield 60, 3) := by decide +kernel
theorem d_M_good_92 : decode c_M_good 92 = .ok (.iload_n 3, 1) := by decide +kernel
theorem d_M_good_93 : decode c_M_good 93 = .ok (.iastore, 1) := by decide +kernel
theorem d_M_good_94 : decode c_M_good 94 = .ok (.aload_n 0, 1) := by decide +kernel
theorem d_M_good_95 : decode c_M_good 95 = .ok (.getfield 19, 3) := by decide +kernel
theorem d_M_good_98 : decode c_M_good 98 = .ok (.aload_n 0, 1) := by decide +kernel
theorem d_M_good_99 : decode c_M_good 99 = .ok (.getfield 60, 3) := by decide +kernel
theorem d_M_good_102 : decode c_M_good 102 = .ok (.bipush (6), 2) := by decide +kernel
theorem d_M_good_104 : decode c_M_good 104 = .ok (.iastore, 1) := by decide +kernel
theorem d_M_good_105 : decode c_M_good 105 = .ok (.aload_n 0, 1) := by decide +kernel
theorem d_M_good_106 : decode c_M_good 106 = .ok (.dup, 1) := by decide +kernel
theorem d_M_good_107 : decode c_M_good 107 = .ok (.getfield 60, 3) := by decide +kernel
theorem d_M_good_110 : decode c_M_good 110 = .ok (.iconst 1, 1) := by decide +kernel
theorem d_M_good_111 : decode c_M_good 111 = .ok (.iadd, 1) := by decide +kernel
theorem d_M_good_112 : decode c_M_good 112 = .ok (.putfield 60, 3) := by decide +kernel
theorem d_M_good_115 : decode c_M_good 115 = .ok (.aload_n 0, 1) := by decide +kernel
theorem d_M_good_116 : decode c_M_good 116 = .ok (.getfield 60, 3) := by decide +kernel
theorem d_M_good_119 : decode c_M_good 119 = .ok (.iconst 1, 1) := by decide +kernel
theorem d_M_good_120 : decode c_M_good 120 = .ok (.isub, 1) := by decide +kernel
theorem d_M_good_121 : decode c_M_good 121 = .ok (.ireturn, 1) := by decide +kernel
theorem d_M_isSpan_0 : decode c_M_isSpan 0 = .ok (.iload_n 0, 1) := by decide +kernel
theorem d_M_isSpan_1 : decode c_M_isSpan 1 = .ok (.i2l, 1) := by decide +kernel
theorem d_M_isSpan_2 : decode c_M_isSpan 2 = .ok (.lconst 0, 1) := by decide +kernel
theorem d_M_isSpan_3 : decode c_M_isSpan 3 = .ok (.ldc2_w 80, 3) := by decide +kernel
theorem d_M_isSpan_6 : decode c_M_isSpan 6 = .ok (.invokestatic 63, 3) := by decide +kernel
theorem d_M_isSpan_9 : decode c_M_isSpan 9 = .ok (.ifCond .eq (20), 3) := by decide +kernel
theorem d_M_isSpan_12 : decode c_M_isSpan 12 = .ok (.iload_n 1, 1) := by decide +kernel
theorem d_M_isSpan_13 : decode c_M_isSpan 13 = .ok (.i2l, 1) := by decide +kernel
theorem d_M_isSpan_14 : decode c_M_isSpan 14 = .ok (.iload_n 0, 1) := by decide +kernel
theorem d_M_isSpan_15 : decode c_M_isSpan 15 = .ok (.i2l, 1) := by decide +kernel
theorem d_M_isSpan_16 : decode c_M_isSpan 16 = .ok (.ldc2_w 80, 3) := by decide +kernel
theorem d_M_isSpan_19 : decode c_M_isSpan 19 = .ok (.invokestatic 63, 3) := by decide +kernel
theorem d_M_isSpan_22 : decode c_M_isSpan 22 = .ok (.ifCond .eq (7), 3) := by decide +kernel
theorem d_M_isSpan_25 : decode c_M_isSpan 25 = .ok (.iconst 1, 1) := by decide +kernel
theorem d_M_isSpan_26 : decode c_M_isSpan 26 = .ok (.goto (4), 3) := by decide +kernel
theorem d_M_isSpan_29 : decode c_M_isSpan 29 = .ok (.iconst 0, 1) := by decide +kernel
theorem d_M_isSpan_30 : decode c_M_isSpan 30 = .ok (.ireturn, 1) := by decide +kernel
theorem d_M_element_0 : decode c_M_element 0 = .ok (.aload_n 0, 1) := by decide +kernel
theorem d_M_element_1 : decode c_M_element 1 = .ok (.aload_n 0, 1) := by decide +kernel
theorem d_M_element_2 : decode c_M_element 2 = .ok (.iload_n 1, 1) := by decide +kernel
theorem d_M_element_3 : decode c_M_element 3 = .ok (.invokevirtual 82, 3) := by decide +kernel
theorem d_M_element_6 : decode c_M_element 6 = .ok (.ifCond .eq (15), 3) := by decide +kernel
theorem d_M_element_9 : decode c_M_element 9 = .ok (.iload_n 2, 1) := by decide +kernel
theorem d_M_element_10 : decode c_M_element 10 = .ok (.i2l, 1) := by decide +kernel
theorem d_M_element_11 : decode c_M_element 11 = .ok (.lconst 0, 1) := by decide +kernel
theorem d_M_element_12 : decode c_M_element 12 = .ok (.ldc2_w 86, 3) := by decide +kernel
theorem d_M_element_15 : decode c_M_element 15 = .ok (.invokestatic 63, 3) := by decide +kernel
theorem d_M_element_18 : decode c_M_element 18 = .ok (.ifCond .ne (7), 3) := by decide +kernel
theorem d_M_element_21 : decode c_M_element 21 = .ok (.iconst 1, 1) := by decide +kernel
theorem d_M_element_22 : decode c_M_element 22 = .ok (.goto (4), 3) := by decide +kernel
theorem d_M_element_25 : decode c_M_element 25 = .ok (.iconst 0, 1) := by decide +kernel
theorem d_M_element_26 : decode c_M_element 26 = .ok (.iload_n 3, 1) := by decide +kernel
theorem d_M_element_27 : decode c_M_element 27 = .ok (.iload 4, 2) := by decide +kernel
theorem d_M_element_29 : decode c_M_element 29 = .ok (.invokestatic 88, 3) := by decide +kernel
theorem d_M_element_32 : decode c_M_element 32 = .ok (.ifCond .ne (7), 3) := by decide +kernel
theorem d_M_element_35 : decode c_M_element 35 = .ok (.iconst 1, 1) := by decide +kernel
theorem d_M_element_36 : decode c_M_element 36 = .ok (.goto (4), 3) := by decide +kernel
theorem d_M_element_39 : decode c_M_element 39 = .ok (.iconst 0, 1) := by decide +kernel
theorem d_M_element_40 : decode c_M_element 40 = .ok (.iconst 0, 1) := by decide +kernel
theorem d_M_element_41 : decode c_M_element 41 = .ok (.invokevirtual 76, 3) := by decide +kernel
theorem d_M_element_44 : decode c_M_element 44 = .ok (.ifCond .eq (4), 3) := by decide +kernel
theorem d_M_element_47 : decode c_M_element 47 = .ok (.return_, 1) := by decide +kernel
theorem d_M_element_48 : decode c_M_element 48 = .ok (.aload_n 0, 1) := by decide +kernel
theorem d_M_element_49 : decode c_M_element 49 = .ok (.getfield 22, 3) := by decide +kernel
theorem d_M_element_52 : decode c_M_element 52 = .ok (.iconst 4, 1) := by decide +kernel
theorem d_M_element_53 : decode c_M_element 53 = .ok (.iload_n 1, 1) := by decide +kernel
theorem d_M_element_54 : decode c_M_element 54 = .ok (.imul, 1) := by decide +kernel
theorem d_M_element_55 : decode c_M_element 55 = .ok (.iload_n 2, 1) := by decide +kernel
theorem d_M_element_56 : decode c_M_element 56 = .ok (.iadd, 1) := by decide +kernel
theorem d_M_element_57 : decode c_M_element 57 = .ok (.iload_n 3, 1) := by decide +kernel
theorem d_M_element_58 : decode c_M_element 58 = .ok (.iastore, 1) := by decide +kernel
theorem d_M_element_59 : decode c_M_element 59 = .ok (.aload_n 0, 1) := by decide +kernel
theorem d_M_element_60 : decode c_M_element 60 = .ok (.getfield 25, 3) := by decide +kernel
theorem d_M_element_63 : decode c_M_element 63 = .ok (.iconst 4, 1) := by decide +kernel
theorem d_M_element_64 : decode c_M_element 64 = .ok (.iload_n 1, 1) := by decide +kernel
theorem d_M_element_65 : decode c_M_element 65 = .ok (.imul, 1) := by decide +kernel
theorem d_M_element_66 : decode c_M_element 66 = .ok (.iload_n 2, 1) := by decide +kernel
theorem d_M_element_67 : decode c_M_element 67 = .ok (.iadd, 1) := by decide +kernel
theorem d_M_element_68 : decode c_M_element 68 = .ok (.iload 4, 2) := by decide +kernel
theorem d_M_element_70 : decode c_M_element 70 = .ok (.iastore, 1) := by decide +kernel
theorem d_M_element_71 : decode c_M_element 71 = .ok (.return_, 1) := by decide +kernel
theorem d_M_limit_0 : decode c_M_limit 0 = .ok (.aload_n 0, 1) := by decide +kernel
theorem d_M_limit_1 : decode c_M_limit 1 = .ok (.aload_n 0, 1) := by decide +kernel
theorem d_M_limit_2 : decode c_M_limit 2 = .ok (.iload_n 1, 1) := by decide +kernel
theorem d_M_limit_3 : decode c_M_limit 3 = .ok (.invokevirtual 82, 3) := by decide +kernel
theorem d_M_limit_6 : decode c_M_limit 6 = .ok (.ifCond .ne (7), 3) := by decide +kernel
theorem d_M_limit_9 : decode c_M_limit 9 = .ok (.iconst 1, 1) := by decide +kernel
theorem d_M_limit_10 : decode c_M_limit 10 = .ok (.goto (4), 3) := by decide +kernel
theorem d_M_limit_13 : decode c_M_limit 13 = .ok (.iconst 0, 1) := by decide +kernel
theorem d_M_limit_14 : decode c_M_limit 14 = .ok (.iload_n 2, 1) := by decide +kernel
theorem d_M_limit_15 : decode c_M_limit 15 = .ok (.i2l, 1) := by decide +kernel
theorem d_M_limit_16 : decode c_M_limit 16 = .ok (.lconst 0, 1) := by decide +kernel
theorem d_M_limit_17 : decode c_M_limit 17 = .ok (.ldc2_w 74, 3) := by decide +kernel
theorem d_M_limit_20 : decode c_M_limit 20 = .ok (.invokestatic 63, 3) := by decide +kernel
theorem d_M_limit_23 : decode c_M_limit 23 = .ok (.ifCond .ne (7), 3) := by decide +kernel
theorem d_M_limit_26 : decode c_M_limit 26 = .ok (.iconst 1, 1) := by decide +kernel
theorem d_M_limit_27 : decode c_M_limit 27 = .ok (.goto (4), 3) := by decide +kernel
theorem d_M_limit_30 : decode c_M_limit 30 = .ok (.iconst 0, 1) := by decide +kernel
theorem d_M_limit_31 : decode c_M_limit 31 = .ok (.iconst 0, 1) := by decide +kernel
theorem d_M_limit_32 : decode c_M_limit 32 = .ok (.invokevirtual 76, 3) := by decide +kernel
theorem d_M_limit_35 : decode c_M_limit 35 = .ok (.ifCond .eq (4), 3) := by decide +kernel
theorem d_M_limit_38 : decode c_M_limit 38 = .ok (.return_, 1) := by decide +kernel
theorem d_M_limit_39 : decode c_M_limit 39 = .ok (.aload_n 0, 1) := by decide +kernel
theorem d_M_limit_40 : decode c_M_limit 40 = .ok (.getfield 19, 3) := by decide +kernel
theorem d_M_limit_43 : decode c_M_limit 43 = .ok (.iload_n 1, 1) := by decide +kernel
theorem d_M_limit_44 : decode c_M_limit 44 = .ok (.iload_n 2, 1) := by decide +kernel
theorem d_M_limit_45 : decode c_M_limit 45 = .ok (.iastore, 1) := by decide +kernel
theorem d_M_limit_46 : decode c_M_limit 46 = .ok (.return_, 1) := by decide +kernel
theorem d_M_arrive_0 : decode c_M_arrive 0 = .ok (.aload_n 0, 1) := by decide +kernel
theorem d_M_arrive_1 : decode c_M_arrive 1 = .ok (.iload_n 1, 1) := by decide +kernel
theorem d_M_arrive_2 : decode c_M_arrive 2 = .ok (.invokevirtual 82, 3) := by decide +kernel
theorem d_M_arrive_5 : decode c_M_arrive 5 = .ok (.ifCond .ne (7), 3) := by decide +kernel
theorem d_M_arrive_8 : decode c_M_arrive 8 = .ok (.iconst 1, 1) := by decide +kernel
theorem d_M_arrive_9 : decode c_M_arrive 9 = .ok (.goto (4), 3) := by decide +kernel
theorem d_M_arrive_12 : decode c_M_arrive 12 = .ok (.iconst 0, 1) := by decide +kernel
theorem d_M_arrive_13 : decode c_M_arrive 13 = .ok (.istore_n 3, 1) := by decide +kernel
theorem d_M_arrive_14 : decode c_M_arrive 14 = .ok (.aload_n 0, 1) := by decide +kernel
theorem d_M_arrive_15 : decode c_M_arrive 15 = .ok (.iload_n 3, 1) := by decide +kernel
theorem d_M_arrive_16 : decode c_M_arrive 16 = .ok (.iload_n 2, 1) := by decide +kernel
theorem d_M_arrive_17 : decode c_M_arrive 17 = .ok (.ifCond .ge (7), 3) := by decide +kernel
theorem d_M_arrive_20 : decode c_M_arrive 20 = .ok (.iconst 1, 1) := by decide +kernel
theorem d_M_arrive_21 : decode c_M_arrive 21 = .ok (.goto (4), 3) := by decide +kernel
theorem d_M_arrive_24 : decode c_M_arrive 24 = .ok (.iconst 0, 1) := by decide +kernel
theorem d_M_arrive_25 : decode c_M_arrive 25 = .ok (.iload_n 3, 1) := by decide +kernel
theorem d_M_arrive_26 : decode c_M_arrive 26 = .ok (.ifCond .ne (28), 3) := by decide +kernel
theorem d_M_arrive_29 : decode c_M_arrive 29 = .ok (.iload_n 2, 1) := by decide +kernel
theorem d_M_arrive_30 : decode c_M_arrive 30 = .ok (.bipush (6), 2) := by decide +kernel
theorem d_M_arrive_32 : decode c_M_arrive 32 = .ok (.aload_n 0, 1) := by decide +kernel
theorem d_M_arrive_33 : decode c_M_arrive 33 = .ok (.getfield 16, 3) := by decide +kernel
theorem d_M_arrive_36 : decode c_M_arrive 36 = .ok (.iload_n 3, 1) := by decide +kernel
theorem d_M_arrive_37 : decode c_M_arrive 37 = .ok (.ifCond .eq (7), 3) := by decide +kernel
theorem d_M_arrive_40 : decode c_M_arrive 40 = .ok (.iconst 0, 1) := by decide +kernel
theorem d_M_arrive_41 : decode c_M_arrive 41 = .ok (.goto (4), 3) := by decide +kernel
theorem d_M_arrive_44 : decode c_M_arrive 44 = .ok (.iload_n 1, 1) := by decide +kernel
theorem d_M_arrive_45 : decode c_M_arrive 45 = .ok (.iaload, 1) := by decide +kernel
theorem d_M_arrive_46 : decode c_M_arrive 46 = .ok (.isub, 1) := by decide +kernel
theorem d_M_arrive_47 : decode c_M_arrive 47 = .ok (.if_icmp .le (7), 3) := by decide +kernel
theorem d_M_arrive_50 : decode c_M_arrive 50 = .ok (.iconst 1, 1) := by decide +kernel
theorem d_M_arrive_51 : decode c_M_arrive 51 = .ok (.goto (4), 3) := by decide +kernel
theorem d_M_arrive_54 : decode c_M_arrive 54 = .ok (.iconst 0, 1) := by decide +kernel
theorem d_M_arrive_55 : decode c_M_arrive 55 = .ok (.invokevirtual 76, 3) := by decide +kernel
theorem d_M_arrive_58 : decode c_M_arrive 58 = .ok (.ifCond .eq (5), 3) := by decide +kernel
theorem d_M_arrive_61 : decode c_M_arrive 61 = .ok (.iconst 0, 1) := by decide +kernel
theorem d_M_arrive_62 : decode c_M_arrive 62 = .ok (.ireturn, 1) := by decide +kernel
theorem d_M_arrive_63 : decode c_M_arrive 63 = .ok (.aload_n 0, 1) := by decide +kernel
theorem d_M_arrive_64 : decode c_M_arrive 64 = .ok (.getfield 16, 3) := by decide +kernel
theorem d_M_arrive_67 : decode c_M_arrive 67 = .ok (.iload_n 1, 1) := by decide +kernel
theorem d_M_arrive_68 : decode c_M_arrive 68 = .ok (.dup2, 1) := by decide +kernel
theorem d_M_arrive_69 : decode c_M_arrive 69 = .ok (.iaload, 1) := by decide +kernel
theorem d_M_arrive_70 : decode c_M_arrive 70 = .ok (.iload_n 2, 1) := by decide +kernel
theorem d_M_arrive_71 : decode c_M_arrive 71 = .ok (.iadd, 1) := by decide +kernel
theorem d_M_arrive_72 : decode c_M_arrive 72 = .ok (.iastore, 1) := by decide +kernel
theorem d_M_arrive_73 : decode c_M_arrive 73 = .ok (.aload_n 0, 1) := by decide +kernel
theorem d_M_arrive_74 : decode c_M_arrive 74 = .ok (.getfield 16, 3) := by decide +kernel
theorem d_M_arrive_77 : decode c_M_arrive 77 = .ok (.iload_n 1, 1) := by decide +kernel
theorem d_M_arrive_78 : decode c_M_arrive 78 = .ok (.iaload, 1) := by decide +kernel
theorem d_M_arrive_79 : decode c_M_arrive 79 = .ok (.ireturn, 1) := by decide +kernel
theorem d_M_stock_0 : decode c_M_stock 0 = .ok (.aload_n 0, 1) := by decide +kernel
theorem d_M_stock_1 : decode c_M_stock 1 = .ok (.aload_n 0, 1) := by decide +kernel
theorem d_M_stock_2 : decode c_M_stock 2 = .ok (.iload_n 1, 1) := by decide +kernel
theorem d_M_stock_3 : decode c_M_stock 3 = .ok (.invokevirtual 82, 3) := by decide +kernel
theorem d_M_stock_6 : decode c_M_stock 6 = .ok (.ifCond .ne (7), 3) := by decide +kernel
theorem d_M_stock_9 : decode c_M_stock 9 = .ok (.iconst 1, 1) := by decide +kernel
theorem d_M_stock_10 : decode c_M_stock 10 = .ok (.goto (4), 3) := by decide +kernel
theorem d_M_stock_13 : decode c_M_stock 13 = .ok (.iconst 0, 1) := by decide +kernel
theorem d_M_stock_14 : decode c_M_stock 14 = .ok (.iconst 0, 1) := by decide +kernel
theorem d_M_stock_15 : decode c_M_stock 15 = .ok (.iconst 0, 1) := by decide +kernel
theorem d_M_stock_16 : decode c_M_stock 16 = .ok (.invokevirtual 76, 3) := by decide +kernel
theorem d_M_stock_19 : decode c_M_stock 19 = .ok (.ifCond .eq (5), 3) := by decide +kernel
theorem d_M_stock_22 : decode c_M_stock 22 = .ok (.iconst 0, 1) := by decide +kernel
theorem d_M_stock_23 : decode c_M_stock 23 = .ok (.ireturn, 1) := by decide +kernel
theorem d_M_stock_24 : decode c_M_stock 24 = .ok (.aload_n 0, 1) := by decide +kernel
theorem d_M_stock_25 : decode c_M_stock 25 = .ok (.getfield 16, 3) := by decide +kernel
theorem d_M_stock_28 : decode c_M_stock 28 = .ok (.iload_n 1, 1) := by decide +kernel
theorem d_M_stock_29 : decode c_M_stock 29 = .ok (.iaload, 1) := by decide +kernel
theorem d_M_stock_30 : decode c_M_stock 30 = .ok (.ireturn, 1) := by decide +kernel
theorem d_M_heat_0 : decode c_M_heat 0 = .ok (.aload_n 0, 1) := by decide +kernel
theorem d_M_heat_1 : decode c_M_heat 1 = .ok (.aload_n 0, 1) := by decide +kernel
theorem d_M_heat_2 : decode c_M_heat 2 = .ok (.getfield 67, 3) := by decide +kernel
theorem d_M_heat_5 : decode c_M_heat 5 = .ok (.iconst 4, 1) := by decide +kernel
theorem d_M_heat_6 : decode c_M_heat 6 = .ok (.if_icmp .ne (7), 3) := by decide +kernel
theorem d_M_heat_9 : decode c_M_heat 9 = .ok (.iconst 1, 1) := by decide +kernel
theorem d_M_heat_10 : decode c_M_heat 10 = .ok (.goto (4), 3) := by decide +kernel
theorem d_M_heat_13 : decode c_M_heat 13 = .ok (.iconst 0, 1) := by decide +kernel
theorem d_M_heat_14 : decode c_M_heat 14 = .ok (.iload_n 1, 1) := by decide +kernel
theorem d_M_heat_15 : decode c_M_heat 15 = .ok (.i2l, 1) := by decide +kernel
theorem d_M_heat_16 : decode c_M_heat 16 = .ok (.lconst 1, 1) := by decide +kernel
theorem d_M_heat_17 : decode c_M_heat 17 = .ok (.ldc2_w 72, 3) := by decide +kernel
theorem d_M_heat_20 : decode c_M_heat 20 = .ok (.invokestatic 63, 3) := by decide +kernel
theorem d_M_heat_23 : decode c_M_heat 23 = .ok (.ifCond .eq (16), 3) := by decide +kernel
theorem d_M_heat_26 : decode c_M_heat 26 = .ok (.iload_n 2, 1) := by decide +kernel
theorem d_M_heat_27 : decode c_M_heat 27 = .ok (.i2l, 1) := by decide +kernel
theorem d_M_heat_28 : decode c_M_heat 28 = .ok (.iload_n 1, 1) := by decide +kernel
theorem d_M_heat_29 : decode c_M_heat 29 = .ok (.i2l, 1) := by decide +kernel
theorem d_M_heat_30 : decode c_M_heat 30 = .ok (.ldc2_w 72, 3) := by decide +kernel
theorem d_M_heat_33 : decode c_M_heat 33 = .ok (.invokestatic 63, 3) := by decide +kernel
theorem d_M_heat_36 : decode c_M_heat 36 = .ok (.ifCond .ne (7), 3) := by decide +kernel
theorem d_M_heat_39 : decode c_M_heat 39 = .ok (.iconst 1, 1) := by decide +kernel
theorem d_M_heat_40 : decode c_M_heat 40 = .ok (.goto (4), 3) := by decide +kernel
theorem d_M_heat_43 : decode c_M_heat 43 = .ok (.iconst 0, 1) := by decide +kernel
theorem d_M_heat_44 : decode c_M_heat 44 = .ok (.iconst 0, 1) := by decide +kernel
theorem d_M_heat_45 : decode c_M_heat 45 = .ok (.invokevirtual 76, 3) := by decide +kernel
theorem d_M_heat_48 : decode c_M_heat 48 = .ok (.ifCond .eq (5), 3) := by decide +kernel
theorem d_M_heat_51 : decode c_M_heat 51 = .ok (.iconst 0, 1) := by decide +kernel
theorem d_M_heat_52 : decode c_M_heat 52 = .ok (.ireturn, 1) := by decide +kernel
theorem d_M_heat_53 : decode c_M_heat 53 = .ok (.aload_n 0, 1) := by decide +kernel
theorem d_M_heat_54 : decode c_M_heat 54 = .ok (.getfield 28, 3) := by decide +kernel
theorem d_M_heat_57 : decode c_M_heat 57 = .ok (.aload_n 0, 1) := by decide +kernel
theorem d_M_heat_58 : decode c_M_heat 58 = .ok (.getfield 67, 3) := by decide +kernel
theorem d_M_heat_61 : decode c_M_heat 61 = .ok (.iload_n 1, 1) := by decide +kernel
theorem d_M_heat_62 : decode c_M_heat 62 = .ok (.iastore, 1) := by decide +kernel
theorem d_M_heat_63 : decode c_M_heat 63 = .ok (.aload_n 0, 1) := by decide +kernel
theorem d_M_heat_64 : decode c_M_heat 64 = .ok (.getfield 31, 3) := by decide +kernel
theorem d_M_heat_67 : decode c_M_heat 67 = .ok (.aload_n 0, 1) := by decide +kernel
theorem d_M_heat_68 : decode c_M_heat 68 = .ok (.getfield 67, 3) := by decide +kernel
