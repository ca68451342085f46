theorem d_M_heat_71 : decode c_M_heat 71 = .ok (.iload_n 2, 1) := by decide +kernel
theorem d_M_heat_72 : decode c_M_heat 72 = .ok (.iastore, 1) := by decide +kernel
theorem d_M_heat_73 : decode c_M_heat 73 = .ok (.aload_n 0, 1) := by decide +kernel
theorem d_M_heat_74 : decode c_M_heat 74 = .ok (.getfield 34, 3) := by decide +kernel
theorem d_M_heat_77 : decode c_M_heat 77 = .ok (.aload_n 0, 1) := by decide +kernel
theorem d_M_heat_78 : decode c_M_heat 78 = .ok (.getfield 67, 3) := by decide +kernel
theorem d_M_heat_81 : decode c_M_heat 81 = .ok (.bipush (30), 2) := by decide +kernel
theorem d_M_heat_83 : decode c_M_heat 83 = .ok (.iastore, 1) := by decide +kernel
theorem d_M_heat_84 : decode c_M_heat 84 = .ok (.iconst 0, 1) := by decide +kernel
theorem d_M_heat_85 : decode c_M_heat 85 = .ok (.istore_n 3, 1) := by decide +kernel
theorem d_M_heat_86 : decode c_M_heat 86 = .ok (.iload_n 3, 1) := by decide +kernel
theorem d_M_heat_87 : decode c_M_heat 87 = .ok (.iconst 4, 1) := by decide +kernel
theorem d_M_heat_88 : decode c_M_heat 88 = .ok (.if_icmp .ge (39), 3) := by decide +kernel
theorem d_M_heat_91 : decode c_M_heat 91 = .ok (.aload_n 0, 1) := by decide +kernel
theorem d_M_heat_92 : decode c_M_heat 92 = .ok (.getfield 37, 3) := by decide +kernel
theorem d_M_heat_95 : decode c_M_heat 95 = .ok (.iconst 4, 1) := by decide +kernel
theorem d_M_heat_96 : decode c_M_heat 96 = .ok (.aload_n 0, 1) := by decide +kernel
theorem d_M_heat_97 : decode c_M_heat 97 = .ok (.getfield 67, 3) := by decide +kernel
theorem d_M_heat_100 : decode c_M_heat 100 = .ok (.imul, 1) := by decide +kernel
theorem d_M_heat_101 : decode c_M_heat 101 = .ok (.iload_n 3, 1) := by decide +kernel
theorem d_M_heat_102 : decode c_M_heat 102 = .ok (.iadd, 1) := by decide +kernel
theorem d_M_heat_103 : decode c_M_heat 103 = .ok (.iconst 0, 1) := by decide +kernel
theorem d_M_heat_104 : decode c_M_heat 104 = .ok (.iastore, 1) := by decide +kernel
theorem d_M_heat_105 : decode c_M_heat 105 = .ok (.aload_n 0, 1) := by decide +kernel
theorem d_M_heat_106 : decode c_M_heat 106 = .ok (.getfield 40, 3) := by decide +kernel
theorem d_M_heat_109 : decode c_M_heat 109 = .ok (.iconst 4, 1) := by decide +kernel
theorem d_M_heat_110 : decode c_M_heat 110 = .ok (.aload_n 0, 1) := by decide +kernel
theorem d_M_heat_111 : decode c_M_heat 111 = .ok (.getfield 67, 3) := by decide +kernel
theorem d_M_heat_114 : decode c_M_heat 114 = .ok (.imul, 1) := by decide +kernel
theorem d_M_heat_115 : decode c_M_heat 115 = .ok (.iload_n 3, 1) := by decide +kernel
theorem d_M_heat_116 : decode c_M_heat 116 = .ok (.iadd, 1) := by decide +kernel
theorem d_M_heat_117 : decode c_M_heat 117 = .ok (.sipush (10000), 3) := by decide +kernel
theorem d_M_heat_120 : decode c_M_heat 120 = .ok (.iastore, 1) := by decide +kernel
theorem d_M_heat_121 : decode c_M_heat 121 = .ok (.iinc 3 (1), 3) := by decide +kernel
theorem d_M_heat_124 : decode c_M_heat 124 = .ok (.goto (-38), 3) := by decide +kernel
theorem d_M_heat_127 : decode c_M_heat 127 = .ok (.aload_n 0, 1) := by decide +kernel
theorem d_M_heat_128 : decode c_M_heat 128 = .ok (.dup, 1) := by decide +kernel
theorem d_M_heat_129 : decode c_M_heat 129 = .ok (.getfield 67, 3) := by decide +kernel
theorem d_M_heat_132 : decode c_M_heat 132 = .ok (.iconst 1, 1) := by decide +kernel
theorem d_M_heat_133 : decode c_M_heat 133 = .ok (.iadd, 1) := by decide +kernel
theorem d_M_heat_134 : decode c_M_heat 134 = .ok (.putfield 67, 3) := by decide +kernel
theorem d_M_heat_137 : decode c_M_heat 137 = .ok (.aload_n 0, 1) := by decide +kernel
theorem d_M_heat_138 : decode c_M_heat 138 = .ok (.getfield 67, 3) := by decide +kernel
theorem d_M_heat_141 : decode c_M_heat 141 = .ok (.iconst 1, 1) := by decide +kernel
theorem d_M_heat_142 : decode c_M_heat 142 = .ok (.isub, 1) := by decide +kernel
theorem d_M_heat_143 : decode c_M_heat 143 = .ok (.ireturn, 1) := by decide +kernel
theorem d_M_span_0 : decode c_M_span 0 = .ok (.aload_n 0, 1) := by decide +kernel
theorem d_M_span_1 : decode c_M_span 1 = .ok (.aload_n 0, 1) := by decide +kernel
theorem d_M_span_2 : decode c_M_span 2 = .ok (.iload_n 1, 1) := by decide +kernel
theorem d_M_span_3 : decode c_M_span 3 = .ok (.invokevirtual 92, 3) := by decide +kernel
theorem d_M_span_6 : decode c_M_span 6 = .ok (.ifCond .eq (15), 3) := by decide +kernel
theorem d_M_span_9 : decode c_M_span 9 = .ok (.iload_n 2, 1) := by decide +kernel
theorem d_M_span_10 : decode c_M_span 10 = .ok (.i2l, 1) := by decide +kernel
theorem d_M_span_11 : decode c_M_span 11 = .ok (.lconst 0, 1) := by decide +kernel
theorem d_M_span_12 : decode c_M_span 12 = .ok (.ldc2_w 86, 3) := by decide +kernel
theorem d_M_span_15 : decode c_M_span 15 = .ok (.invokestatic 63, 3) := by decide +kernel
theorem d_M_span_18 : decode c_M_span 18 = .ok (.ifCond .ne (7), 3) := by decide +kernel
theorem d_M_span_21 : decode c_M_span 21 = .ok (.iconst 1, 1) := by decide +kernel
theorem d_M_span_22 : decode c_M_span 22 = .ok (.goto (4), 3) := by decide +kernel
theorem d_M_span_25 : decode c_M_span 25 = .ok (.iconst 0, 1) := by decide +kernel
theorem d_M_span_26 : decode c_M_span 26 = .ok (.iload_n 3, 1) := by decide +kernel
theorem d_M_span_27 : decode c_M_span 27 = .ok (.iload 4, 2) := by decide +kernel
theorem d_M_span_29 : decode c_M_span 29 = .ok (.invokestatic 88, 3) := by decide +kernel
theorem d_M_span_32 : decode c_M_span 32 = .ok (.ifCond .ne (7), 3) := by decide +kernel
theorem d_M_span_35 : decode c_M_span 35 = .ok (.iconst 1, 1) := by decide +kernel
theorem d_M_span_36 : decode c_M_span 36 = .ok (.goto (4), 3) := by decide +kernel
theorem d_M_span_39 : decode c_M_span 39 = .ok (.iconst 0, 1) := by decide +kernel
theorem d_M_span_40 : decode c_M_span 40 = .ok (.iconst 0, 1) := by decide +kernel
theorem d_M_span_41 : decode c_M_span 41 = .ok (.invokevirtual 76, 3) := by decide +kernel
theorem d_M_span_44 : decode c_M_span 44 = .ok (.ifCond .eq (4), 3) := by decide +kernel
theorem d_M_span_47 : decode c_M_span 47 = .ok (.return_, 1) := by decide +kernel
theorem d_M_span_48 : decode c_M_span 48 = .ok (.aload_n 0, 1) := by decide +kernel
theorem d_M_span_49 : decode c_M_span 49 = .ok (.getfield 37, 3) := by decide +kernel
theorem d_M_span_52 : decode c_M_span 52 = .ok (.iconst 4, 1) := by decide +kernel
theorem d_M_span_53 : decode c_M_span 53 = .ok (.iload_n 1, 1) := by decide +kernel
theorem d_M_span_54 : decode c_M_span 54 = .ok (.imul, 1) := by decide +kernel
theorem d_M_span_55 : decode c_M_span 55 = .ok (.iload_n 2, 1) := by decide +kernel
theorem d_M_span_56 : decode c_M_span 56 = .ok (.iadd, 1) := by decide +kernel
theorem d_M_span_57 : decode c_M_span 57 = .ok (.iload_n 3, 1) := by decide +kernel
theorem d_M_span_58 : decode c_M_span 58 = .ok (.iastore, 1) := by decide +kernel
theorem d_M_span_59 : decode c_M_span 59 = .ok (.aload_n 0, 1) := by decide +kernel
theorem d_M_span_60 : decode c_M_span 60 = .ok (.getfield 40, 3) := by decide +kernel
theorem d_M_span_63 : decode c_M_span 63 = .ok (.iconst 4, 1) := by decide +kernel
theorem d_M_span_64 : decode c_M_span 64 = .ok (.iload_n 1, 1) := by decide +kernel
theorem d_M_span_65 : decode c_M_span 65 = .ok (.imul, 1) := by decide +kernel
theorem d_M_span_66 : decode c_M_span 66 = .ok (.iload_n 2, 1) := by decide +kernel
theorem d_M_span_67 : decode c_M_span 67 = .ok (.iadd, 1) := by decide +kernel
theorem d_M_span_68 : decode c_M_span 68 = .ok (.iload 4, 2) := by decide +kernel
theorem d_M_span_70 : decode c_M_span 70 = .ok (.iastore, 1) := by decide +kernel
theorem d_M_span_71 : decode c_M_span 71 = .ok (.return_, 1) := by decide +kernel
theorem d_M_most_0 : decode c_M_most 0 = .ok (.aload_n 0, 1) := by decide +kernel
theorem d_M_most_1 : decode c_M_most 1 = .ok (.aload_n 0, 1) := by decide +kernel
theorem d_M_most_2 : decode c_M_most 2 = .ok (.iload_n 1, 1) := by decide +kernel
theorem d_M_most_3 : decode c_M_most 3 = .ok (.invokevirtual 92, 3) := by decide +kernel
theorem d_M_most_6 : decode c_M_most 6 = .ok (.ifCond .ne (7), 3) := by decide +kernel
theorem d_M_most_9 : decode c_M_most 9 = .ok (.iconst 1, 1) := by decide +kernel
theorem d_M_most_10 : decode c_M_most 10 = .ok (.goto (4), 3) := by decide +kernel
theorem d_M_most_13 : decode c_M_most 13 = .ok (.iconst 0, 1) := by decide +kernel
theorem d_M_most_14 : decode c_M_most 14 = .ok (.iload_n 2, 1) := by decide +kernel
theorem d_M_most_15 : decode c_M_most 15 = .ok (.i2l, 1) := by decide +kernel
theorem d_M_most_16 : decode c_M_most 16 = .ok (.lconst 0, 1) := by decide +kernel
theorem d_M_most_17 : decode c_M_most 17 = .ok (.ldc2_w 95, 3) := by decide +kernel
theorem d_M_most_20 : decode c_M_most 20 = .ok (.invokestatic 63, 3) := by decide +kernel
theorem d_M_most_23 : decode c_M_most 23 = .ok (.ifCond .ne (7), 3) := by decide +kernel
theorem d_M_most_26 : decode c_M_most 26 = .ok (.iconst 1, 1) := by decide +kernel
theorem d_M_most_27 : decode c_M_most 27 = .ok (.goto (4), 3) := by decide +kernel
theorem d_M_most_30 : decode c_M_most 30 = .ok (.iconst 0, 1) := by decide +kernel
theorem d_M_most_31 : decode c_M_most 31 = .ok (.iconst 0, 1) := by decide +kernel
theorem d_M_most_32 : decode c_M_most 32 = .ok (.invokevirtual 76, 3) := by decide +kernel
theorem d_M_most_35 : decode c_M_most 35 = .ok (.ifCond .eq (4), 3) := by decide +kernel
theorem d_M_most_38 : decode c_M_most 38 = .ok (.return_, 1) := by decide +kernel
theorem d_M_most_39 : decode c_M_most 39 = .ok (.aload_n 0, 1) := by decide +kernel
theorem d_M_most_40 : decode c_M_most 40 = .ok (.getfield 34, 3) := by decide +kernel
theorem d_M_most_43 : decode c_M_most 43 = .ok (.iload_n 1, 1) := by decide +kernel
theorem d_M_most_44 : decode c_M_most 44 = .ok (.iload_n 2, 1) := by decide +kernel
theorem d_M_most_45 : decode c_M_most 45 = .ok (.iastore, 1) := by decide +kernel
theorem d_M_most_46 : decode c_M_most 46 = .ok (.return_, 1) := by decide +kernel
theorem d_M_top_0 : decode c_M_top 0 = .ok (.aload_n 0, 1) := by decide +kernel
theorem d_M_top_1 : decode c_M_top 1 = .ok (.getfield 16, 3) := by decide +kernel
theorem d_M_top_4 : decode c_M_top 4 = .ok (.iload_n 1, 1) := by decide +kernel
theorem d_M_top_5 : decode c_M_top 5 = .ok (.iaload, 1) := by decide +kernel
theorem d_M_top_6 : decode c_M_top 6 = .ok (.aload_n 0, 1) := by decide +kernel
theorem d_M_top_7 : decode c_M_top 7 = .ok (.getfield 19, 3) := by decide +kernel
theorem d_M_top_10 : decode c_M_top 10 = .ok (.iload_n 1, 1) := by decide +kernel
theorem d_M_top_11 : decode c_M_top 11 = .ok (.iaload, 1) := by decide +kernel
theorem d_M_top_12 : decode c_M_top 12 = .ok (.if_icmp .ge (12), 3) := by decide +kernel
theorem d_M_top_15 : decode c_M_top 15 = .ok (.aload_n 0, 1) := by decide +kernel
theorem d_M_top_16 : decode c_M_top 16 = .ok (.getfield 16, 3) := by decide +kernel
theorem d_M_top_19 : decode c_M_top 19 = .ok (.iload_n 1, 1) := by decide +kernel
theorem d_M_top_20 : decode c_M_top 20 = .ok (.iaload, 1) := by decide +kernel
theorem d_M_top_21 : decode c_M_top 21 = .ok (.goto (9), 3) := by decide +kernel
theorem d_M_top_24 : decode c_M_top 24 = .ok (.aload_n 0, 1) := by decide +kernel
theorem d_M_top_25 : decode c_M_top 25 = .ok (.getfield 19, 3) := by decide +kernel
theorem d_M_top_28 : decode c_M_top 28 = .ok (.iload_n 1, 1) := by decide +kernel
theorem d_M_top_29 : decode c_M_top 29 = .ok (.iaload, 1) := by decide +kernel
theorem d_M_top_30 : decode c_M_top 30 = .ok (.ireturn, 1) := by decide +kernel
theorem d_M_sum_0 : decode c_M_sum 0 = .ok (.iconst 0, 1) := by decide +kernel
theorem d_M_sum_1 : decode c_M_sum 1 = .ok (.istore_n 3, 1) := by decide +kernel
theorem d_M_sum_2 : decode c_M_sum 2 = .ok (.iconst 0, 1) := by decide +kernel
theorem d_M_sum_3 : decode c_M_sum 3 = .ok (.istore 4, 2) := by decide +kernel
theorem d_M_sum_5 : decode c_M_sum 5 = .ok (.iload 4, 2) := by decide +kernel
theorem d_M_sum_7 : decode c_M_sum 7 = .ok (.iload_n 1, 1) := by decide +kernel
theorem d_M_sum_8 : decode c_M_sum 8 = .ok (.if_icmp .gt (50), 3) := by decide +kernel
theorem d_M_sum_11 : decode c_M_sum 11 = .ok (.iload_n 3, 1) := by decide +kernel
theorem d_M_sum_12 : decode c_M_sum 12 = .ok (.aload_n 0, 1) := by decide +kernel
theorem d_M_sum_13 : decode c_M_sum 13 = .ok (.getfield 49, 3) := by decide +kernel
theorem d_M_sum_16 : decode c_M_sum 16 = .ok (.iload 4, 2) := by decide +kernel
theorem d_M_sum_18 : decode c_M_sum 18 = .ok (.iaload, 1) := by decide +kernel
theorem d_M_sum_19 : decode c_M_sum 19 = .ok (.iload_n 2, 1) := by decide +kernel
theorem d_M_sum_20 : decode c_M_sum 20 = .ok (.ifCond .ne (13), 3) := by decide +kernel
theorem d_M_sum_23 : decode c_M_sum 23 = .ok (.aload_n 0, 1) := by decide +kernel
theorem d_M_sum_24 : decode c_M_sum 24 = .ok (.getfield 7, 3) := by decide +kernel
theorem d_M_sum_27 : decode c_M_sum 27 = .ok (.iload 4, 2) := by decide +kernel
theorem d_M_sum_29 : decode c_M_sum 29 = .ok (.iaload, 1) := by decide +kernel
theorem d_M_sum_30 : decode c_M_sum 30 = .ok (.goto (19), 3) := by decide +kernel
theorem d_M_sum_33 : decode c_M_sum 33 = .ok (.iload_n 2, 1) := by decide +kernel
theorem d_M_sum_34 : decode c_M_sum 34 = .ok (.iconst 1, 1) := by decide +kernel
theorem d_M_sum_35 : decode c_M_sum 35 = .ok (.if_icmp .ne (13), 3) := by decide +kernel
theorem d_M_sum_38 : decode c_M_sum 38 = .ok (.aload_n 0, 1) := by decide +kernel
theorem d_M_sum_39 : decode c_M_sum 39 = .ok (.getfield 13, 3) := by decide +kernel
theorem d_M_sum_42 : decode c_M_sum 42 = .ok (.iload 4, 2) := by decide +kernel
theorem d_M_sum_44 : decode c_M_sum 44 = .ok (.iaload, 1) := by decide +kernel
theorem d_M_sum_45 : decode c_M_sum 45 = .ok (.goto (4), 3) := by decide +kernel
theorem d_M_sum_48 : decode c_M_sum 48 = .ok (.iconst 1, 1) := by decide +kernel
theorem d_M_sum_49 : decode c_M_sum 49 = .ok (.imul, 1) := by decide +kernel
theorem d_M_sum_50 : decode c_M_sum 50 = .ok (.iadd, 1) := by decide +kernel
theorem d_M_sum_51 : decode c_M_sum 51 = .ok (.istore_n 3, 1) := by decide +kernel
theorem d_M_sum_52 : decode c_M_sum 52 = .ok (.iinc 4 (1), 3) := by decide +kernel
theorem d_M_sum_55 : decode c_M_sum 55 = .ok (.goto (-50), 3) := by decide +kernel
theorem d_M_sum_58 : decode c_M_sum 58 = .ok (.iload_n 3, 1) := by decide +kernel
theorem d_M_sum_59 : decode c_M_sum 59 = .ok (.ireturn, 1) := by decide +kernel
theorem d_M_broken_0 : decode c_M_broken 0 = .ok (.aload_n 0, 1) := by decide +kernel
theorem d_M_broken_1 : decode c_M_broken 1 = .ok (.aload_n 0, 1) := by decide +kernel
theorem d_M_broken_2 : decode c_M_broken 2 = .ok (.getfield 60, 3) := by decide +kernel
theorem d_M_broken_5 : decode c_M_broken 5 = .ok (.iconst 1, 1) := by decide +kernel
theorem d_M_broken_6 : decode c_M_broken 6 = .ok (.isub, 1) := by decide +kernel
theorem d_M_broken_7 : decode c_M_broken 7 = .ok (.iconst 0, 1) := by decide +kernel
theorem d_M_broken_8 : decode c_M_broken 8 = .ok (.invokevirtual 97, 3) := by decide +kernel
theorem d_M_broken_11 : decode c_M_broken 11 = .ok (.istore_n 2, 1) := by decide +kernel
theorem d_M_broken_12 : decode c_M_broken 12 = .ok (.iload_n 2, 1) := by decide +kernel
theorem d_M_broken_13 : decode c_M_broken 13 = .ok (.aload_n 0, 1) := by decide +kernel
theorem d_M_broken_14 : decode c_M_broken 14 = .ok (.getfield 28, 3) := by decide +kernel
theorem d_M_broken_17 : decode c_M_broken 17 = .ok (.iload_n 1, 1) := by decide +kernel
theorem d_M_broken_18 : decode c_M_broken 18 = .ok (.iaload, 1) := by decide +kernel
theorem d_M_broken_19 : decode c_M_broken 19 = .ok (.if_icmp .ge (7), 3) := by decide +kernel
theorem d_M_broken_22 : decode c_M_broken 22 = .ok (.iconst 1, 1) := by decide +kernel
theorem d_M_broken_23 : decode c_M_broken 23 = .ok (.goto (4), 3) := by decide +kernel
theorem d_M_broken_26 : decode c_M_broken 26 = .ok (.iconst 0, 1) := by decide +kernel
theorem d_M_broken_27 : decode c_M_broken 27 = .ok (.iload_n 2, 1) := by decide +kernel
theorem d_M_broken_28 : decode c_M_broken 28 = .ok (.aload_n 0, 1) := by decide +kernel
theorem d_M_broken_29 : decode c_M_broken 29 = .ok (.getfield 31, 3) := by decide +kernel
theorem d_M_broken_32 : decode c_M_broken 32 = .ok (.iload_n 1, 1) := by decide +kernel
theorem d_M_broken_33 : decode c_M_broken 33 = .ok (.iaload, 1) := by decide +kernel
theorem d_M_broken_34 : decode c_M_broken 34 = .ok (.if_icmp .le (7), 3) := by decide +kernel
theorem d_M_broken_37 : decode c_M_broken 37 = .ok (.iconst 2, 1) := by decide +kernel
theorem d_M_broken_38 : decode c_M_broken 38 = .ok (.goto (4), 3) := by decide +kernel
theorem d_M_broken_41 : decode c_M_broken 41 = .ok (.iconst 0, 1) := by decide +kernel
theorem d_M_broken_42 : decode c_M_broken 42 = .ok (.ior, 1) := by decide +kernel
theorem d_M_broken_43 : decode c_M_broken 43 = .ok (.aload_n 0, 1) := by decide +kernel
theorem d_M_broken_44 : decode c_M_broken 44 = .ok (.aload_n 0, 1) := by decide +kernel
theorem d_M_broken_45 : decode c_M_broken 45 = .ok (.getfield 60, 3) := by decide +kernel
theorem d_M_broken_48 : decode c_M_broken 48 = .ok (.iconst 1, 1) := by decide +kernel
theorem d_M_broken_49 : decode c_M_broken 49 = .ok (.isub, 1) := by decide +kernel
theorem d_M_broken_50 : decode c_M_broken 50 = .ok (.iconst 2, 1) := by decide +kernel
theorem d_M_broken_51 : decode c_M_broken 51 = .ok (.invokevirtual 97, 3) := by decide +kernel
theorem d_M_broken_54 : decode c_M_broken 54 = .ok (.aload_n 0, 1) := by decide +kernel
theorem d_M_broken_55 : decode c_M_broken 55 = .ok (.getfield 34, 3) := by decide +kernel
theorem d_M_broken_58 : decode c_M_broken 58 = .ok (.iload_n 1, 1) := by decide +kernel
theorem d_M_broken_59 : decode c_M_broken 59 = .ok (.iaload, 1) := by decide +kernel
theorem d_M_broken_60 : decode c_M_broken 60 = .ok (.if_icmp .le (9), 3) := by decide +kernel
theorem d_M_broken_63 : decode c_M_broken 63 = .ok (.sipush (1024), 3) := by decide +kernel
theorem d_M_broken_66 : decode c_M_broken 66 = .ok (.goto (4), 3) := by decide +kernel
theorem d_M_broken_69 : decode c_M_broken 69 = .ok (.iconst 0, 1) := by decide +kernel
theorem d_M_broken_70 : decode c_M_broken 70 = .ok (.ior, 1) := by decide +kernel
theorem d_M_broken_71 : decode c_M_broken 71 = .ok (.istore_n 3, 1) := by decide +kernel
theorem d_M_broken_72 : decode c_M_broken 72 = .ok (.iconst 0, 1) := by decide +kernel
theorem d_M_broken_73 : decode c_M_broken 73 = .ok (.istore 4, 2) := by decide +kernel
theorem d_M_broken_75 : decode c_M_broken 75 = .ok (.iload 4, 2) := by decide +kernel
theorem d_M_broken_77 : decode c_M_broken 77 = .ok (.iconst 4, 1) := by decide +kernel
theorem d_M_broken_78 : decode c_M_broken 78 = .ok (.if_icmp .ge (166), 3) := by decide +kernel
theorem d_M_broken_81 : decode c_M_broken 81 = .ok (.lconst 0, 1) := by decide +kernel
theorem d_M_broken_82 : decode c_M_broken 82 = .ok (.lstore 5, 2) := by decide +kernel
theorem d_M_broken_84 : decode c_M_broken 84 = .ok (.lconst 0, 1) := by decide +kernel
theorem d_M_broken_85 : decode c_M_broken 85 = .ok (.lstore 7, 2) := by decide +kernel
theorem d_M_broken_87 : decode c_M_broken 87 = .ok (.iconst 0, 1) := by decide +kernel
theorem d_M_broken_88 : decode c_M_broken 88 = .ok (.istore 9, 2) := by decide +kernel
theorem d_M_broken_90 : decode c_M_broken 90 = .ok (.iload 9, 2) := by decide +kernel
theorem d_M_broken_92 : decode c_M_broken 92 = .ok (.aload_n 0, 1) := by decide +kernel
theorem d_M_broken_93 : decode c_M_broken 93 = .ok (.getfield 60, 3) := by decide +kernel
theorem d_M_broken_96 : decode c_M_broken 96 = .ok (.if_icmp .ge (81), 3) := by decide +kernel
theorem d_M_broken_99 : decode c_M_broken 99 = .ok (.lload 5, 2) := by decide +kernel
theorem d_M_broken_101 : decode c_M_broken 101 = .ok (.aload_n 0, 1) := by decide +kernel
theorem d_M_broken_102 : decode c_M_broken 102 = .ok (.getfield 49, 3) := by decide +kernel
theorem d_M_broken_105 : decode c_M_broken 105 = .ok (.iload 9, 2) := by decide +kernel
theorem d_M_broken_107 : decode c_M_broken 107 = .ok (.iaload, 1) := by decide +kernel
theorem d_M_broken_108 : decode c_M_broken 108 = .ok (.i2l, 1) := by decide +kernel
theorem d_M_broken_109 : decode c_M_broken 109 = .ok (.aload_n 0, 1) := by decide +kernel
theorem d_M_broken_110 : decode c_M_broken 110 = .ok (.getfield 7, 3) := by decide +kernel
theorem d_M_broken_113 : decode c_M_broken 113 = .ok (.iload 9, 2) := by decide +kernel
theorem d_M_broken_115 : decode c_M_broken 115 = .ok (.iaload, 1) := by decide +kernel
theorem d_M_broken_116 : decode c_M_broken 116 = .ok (.i2l, 1) := by decide +kernel
theorem d_M_broken_117 : decode c_M_broken 117 = .ok (.lmul, 1) := by decide +kernel
theorem d_M_broken_118 : decode c_M_broken 118 = .ok (.aload_n 0, 1) := by decide +kernel
theorem d_M_broken_119 : decode c_M_broken 119 = .ok (.getfield 25, 3) := by decide +kernel
theorem d_M_broken_122 : decode c_M_broken 122 = .ok (.iconst 4, 1) := by decide +kernel
theorem d_M_broken_123 : decode c_M_broken 123 = .ok (.iload 9, 2) := by decide +kernel
theorem d_M_broken_125 : decode c_M_broken 125 = .ok (.imul, 1) := by decide +kernel
theorem d_M_broken_126 : decode c_M_broken 126 = .ok (.iload 4, 2) := by decide +kernel
theorem d_M_broken_128 : decode c_M_broken 128 = .ok (.iadd, 1) := by decide +kernel
theorem d_M_broken_129 : decode c_M_broken 129 = .ok (.iaload, 1) := by decide +kernel
theorem d_M_broken_130 : decode c_M_broken 130 = .ok (.i2l, 1) := by decide +kernel
theorem d_M_broken_131 : decode c_M_broken 131 = .ok (.lmul, 1) := by decide +kernel
theorem d_M_broken_132 : decode c_M_broken 132 = .ok (.ladd, 1) := by decide +kernel
theorem d_M_broken_133 : decode c_M_broken 133 = .ok (.lstore 5, 2) := by decide +kernel
theorem d_M_broken_135 : decode c_M_broken 135 = .ok (.lload 7, 2) := by decide +kernel
theorem d_M_broken_137 : decode c_M_broken 137 = .ok (.aload_n 0, 1) := by decide +kernel
theorem d_M_broken_138 : decode c_M_broken 138 = .ok (.getfield 49, 3) := by decide +kernel
theorem d_M_broken_141 : decode c_M_broken 141 = .ok (.iload 9, 2) := by decide +kernel
theorem d_M_broken_143 : decode c_M_broken 143 = .ok (.iaload, 1) := by decide +kernel
theorem d_M_broken_144 : decode c_M_broken 144 = .ok (.i2l, 1) := by decide +kernel
theorem d_M_broken_145 : decode c_M_broken 145 = .ok (.aload_n 0, 1) := by decide +kernel
theorem d_M_broken_146 : decode c_M_broken 146 = .ok (.getfield 7, 3) := by decide +kernel
theorem d_M_broken_149 : decode c_M_broken 149 = .ok (.iload 9, 2) := by decide +kernel
theorem d_M_broken_151 : decode c_M_broken 151 = .ok (.iaload, 1) := by decide +kernel
theorem d_M_broken_152 : decode c_M_broken 152 = .ok (.i2l, 1) := by decide +kernel
theorem d_M_broken_153 : decode c_M_broken 153 = .ok (.lmul, 1) := by decide +kernel
theorem d_M_broken_154 : decode c_M_broken 154 = .ok (.aload_n 0, 1) := by decide +kernel
theorem d_M_broken_155 : decode c_M_broken 155 = .ok (.getfield 22, 3) := by decide +kernel
theorem d_M_broken_158 : decode c_M_broken 158 = .ok (.iconst 4, 1) := by decide +kernel
theorem d_M_broken_159 : decode c_M_broken 159 = .ok (.iload 9, 2) := by decide +kernel
theorem d_M_broken_161 : decode c_M_broken 161 = .ok (.imul, 1) := by decide +kernel
theorem d_M_broken_162 : decode c_M_broken 162 = .ok (.iload 4, 2) := by decide +kernel
theorem d_M_broken_164 : decode c_M_broken 164 = .ok (.iadd, 1) := by decide +kernel
theorem d_M_broken_165 : decode c_M_broken 165 = .ok (.iaload, 1) := by decide +kernel
theorem d_M_broken_166 : decode c_M_broken 166 = .ok (.i2l, 1) := by decide +kernel
theorem d_M_broken_167 : decode c_M_broken 167 = .ok (.lmul, 1) := by decide +kernel
theorem d_M_broken_168 : decode c_M_broken 168 = .ok (.ladd, 1) := by decide +kernel
theorem d_M_broken_169 : decode c_M_broken 169 = .ok (.lstore 7, 2) := by decide +kernel
theorem d_M_broken_171 : decode c_M_broken 171 = .ok (.iinc 9 (1), 3) := by decide +kernel
theorem d_M_broken_174 : decode c_M_broken 174 = .ok (.goto (-84), 3) := by decide +kernel
theorem d_M_broken_177 : decode c_M_broken 177 = .ok (.lload 5, 2) := by decide +kernel
theorem d_M_broken_179 : decode c_M_broken 179 = .ok (.aload_n 0, 1) := by decide +kernel
theorem d_M_broken_180 : decode c_M_broken 180 = .ok (.getfield 40, 3) := by decide +kernel
theorem d_M_broken_183 : decode c_M_broken 183 = .ok (.iconst 4, 1) := by decide +kernel
theorem d_M_broken_184 : decode c_M_broken 184 = .ok (.iload_n 1, 1) := by decide +kernel
theorem d_M_broken_185 : decode c_M_broken 185 = .ok (.imul, 1) := by decide +kernel
theorem d_M_broken_186 : decode c_M_broken 186 = .ok (.iload 4, 2) := by decide +kernel
theorem d_M_broken_188 : decode c_M_broken 188 = .ok (.iadd, 1) := by decide +kernel
theorem d_M_broken_189 : decode c_M_broken 189 = .ok (.iaload, 1) := by decide +kernel
theorem d_M_broken_190 : decode c_M_broken 190 = .ok (.i2l, 1) := by decide +kernel
theorem d_M_broken_191 : decode c_M_broken 191 = .ok (.iload_n 2, 1) := by decide +kernel
theorem d_M_broken_192 : decode c_M_broken 192 = .ok (.i2l, 1) := by decide +kernel
theorem d_M_broken_193 : decode c_M_broken 193 = .ok (.lmul, 1) := by decide +kernel
theorem d_M_broken_194 : decode c_M_broken 194 = .ok (.lcmp, 1) := by decide +kernel
theorem d_M_broken_195 : decode c_M_broken 195 = .ok (.ifCond .le (12), 3) := by decide +kernel
theorem d_M_broken_198 : decode c_M_broken 198 = .ok (.iload_n 3, 1) := by decide +kernel
theorem d_M_broken_199 : decode c_M_broken 199 = .ok (.iconst 4, 1) := by decide +kernel
theorem d_M_broken_200 : decode c_M_broken 200 = .ok (.iconst 2, 1) := by decide +kernel
theorem d_M_broken_201 : decode c_M_broken 201 = .ok (.iload 4, 2) := by decide +kernel
theorem d_M_broken_203 : decode c_M_broken 203 = .ok (.imul, 1) := by decide +kernel
theorem d_M_broken_204 : decode c_M_broken 204 = .ok (.ishl, 1) := by decide +kernel
theorem d_M_broken_205 : decode c_M_broken 205 = .ok (.ior, 1) := by decide +kernel
theorem d_M_broken_206 : decode c_M_broken 206 = .ok (.istore_n 3, 1) := by decide +kernel
theorem d_M_broken_207 : decode c_M_broken 207 = .ok (.lload 7, 2) := by decide +kernel
theorem d_M_broken_209 : decode c_M_broken 209 = .ok (.aload_n 0, 1) := by decide +kernel
theorem d_M_broken_210 : decode c_M_broken 210 = .ok (.getfield 37, 3) := by decide +kernel
theorem d_M_broken_213 : decode c_M_broken 213 = .ok (.iconst 4, 1) := by decide +kernel
theorem d_M_broken_214 : decode c_M_broken 214 = .ok (.iload_n 1, 1) := by decide +kernel
theorem d_M_broken_215 : decode c_M_broken 215 = .ok (.imul, 1) := by decide +kernel
theorem d_M_broken_216 : decode c_M_broken 216 = .ok (.iload 4, 2) := by decide +kernel
theorem d_M_broken_218 : decode c_M_broken 218 = .ok (.iadd, 1) := by decide +kernel
theorem d_M_broken_219 : decode c_M_broken 219 = .ok (.iaload, 1) := by decide +kernel
theorem d_M_broken_220 : decode c_M_broken 220 = .ok (.i2l, 1) := by decide +kernel
theorem d_M_broken_221 : decode c_M_broken 221 = .ok (.iload_n 2, 1) := by decide +kernel
theorem d_M_broken_222 : decode c_M_broken 222 = .ok (.i2l, 1) := by decide +kernel
theorem d_M_broken_223 : decode c_M_broken 223 = .ok (.lmul, 1) := by decide +kernel
theorem d_M_broken_224 : decode c_M_broken 224 = .ok (.lcmp, 1) := by decide +kernel
theorem d_M_broken_225 : decode c_M_broken 225 = .ok (.ifCond .ge (13), 3) := by decide +kernel
theorem d_M_broken_228 : decode c_M_broken 228 = .ok (.iload_n 3, 1) := by decide +kernel
theorem d_M_broken_229 : decode c_M_broken 229 = .ok (.bipush (8), 2) := by decide +kernel
theorem d_M_broken_231 : decode c_M_broken 231 = .ok (.iconst 2, 1) := by decide +kernel
theorem d_M_broken_232 : decode c_M_broken 232 = .ok (.iload 4, 2) := by decide +kernel
theorem d_M_broken_234 : decode c_M_broken 234 = .ok (.imul, 1) := by decide +kernel
theorem d_M_broken_235 : decode c_M_broken 235 = .ok (.ishl, 1) := by decide +kernel
theorem d_M_broken_236 : decode c_M_broken 236 = .ok (.ior, 1) := by decide +kernel
theorem d_M_broken_237 : decode c_M_broken 237 = .ok (.istore_n 3, 1) := by decide +kernel
theorem d_M_broken_238 : decode c_M_broken 238 = .ok (.iinc 4 (1), 3) := by decide +kernel
theorem d_M_broken_241 : decode c_M_broken 241 = .ok (.goto (-166), 3) := by decide +kernel
theorem d_M_broken_244 : decode c_M_broken 244 = .ok (.iload_n 3, 1) := by decide +kernel
theorem d_M_broken_245 : decode c_M_broken 245 = .ok (.ireturn, 1) := by decide +kernel
theorem d_M_keep_0 : decode c_M_keep 0 = .ok (.aload_n 0, 1) := by decide +kernel
theorem d_M_keep_1 : decode c_M_keep 1 = .ok (.getfield 43, 3) := by decide +kernel
theorem d_M_keep_4 : decode c_M_keep 4 = .ok (.iload_n 1, 1) := by decide +kernel
theorem d_M_keep_5 : decode c_M_keep 5 = .ok (.aload_n 0, 1) := by decide +kernel
theorem d_M_keep_6 : decode c_M_keep 6 = .ok (.aload_n 0, 1) := by decide +kernel
theorem d_M_keep_7 : decode c_M_keep 7 = .ok (.getfield 60, 3) := by decide +kernel
theorem d_M_keep_10 : decode c_M_keep 10 = .ok (.iconst 1, 1) := by decide +kernel
theorem d_M_keep_11 : decode c_M_keep 11 = .ok (.isub, 1) := by decide +kernel
theorem d_M_keep_12 : decode c_M_keep 12 = .ok (.iconst 1, 1) := by decide +kernel
theorem d_M_keep_13 : decode c_M_keep 13 = .ok (.invokevirtual 97, 3) := by decide +kernel
theorem d_M_keep_16 : decode c_M_keep 16 = .ok (.iastore, 1) := by decide +kernel
theorem d_M_keep_17 : decode c_M_keep 17 = .ok (.iconst 0, 1) := by decide +kernel
theorem d_M_keep_18 : decode c_M_keep 18 = .ok (.istore_n 2, 1) := by decide +kernel
theorem d_M_keep_19 : decode c_M_keep 19 = .ok (.iload_n 2, 1) := by decide +kernel
theorem d_M_keep_20 : decode c_M_keep 20 = .ok (.iconst 5, 1) := by decide +kernel
theorem d_M_keep_21 : decode c_M_keep 21 = .ok (.if_icmp .ge (37), 3) := by decide +kernel
theorem d_M_keep_24 : decode c_M_keep 24 = .ok (.aload_n 0, 1) := by decide +kernel
theorem d_M_keep_25 : decode c_M_keep 25 = .ok (.getfield 46, 3) := by decide +kernel
theorem d_M_keep_28 : decode c_M_keep 28 = .ok (.iconst 5, 1) := by decide +kernel
theorem d_M_keep_29 : decode c_M_keep 29 = .ok (.iload_n 1, 1) := by decide +kernel
theorem d_M_keep_30 : decode c_M_keep 30 = .ok (.imul, 1) := by decide +kernel
theorem d_M_keep_31 : decode c_M_keep 31 = .ok (.iload_n 2, 1) := by decide +kernel
theorem d_M_keep_32 : decode c_M_keep 32 = .ok (.iadd, 1) := by decide +kernel
theorem d_M_keep_33 : decode c_M_keep 33 = .ok (.iload_n 2, 1) := by decide +kernel
theorem d_M_keep_34 : decode c_M_keep 34 = .ok (.aload_n 0, 1) := by decide +kernel
theorem d_M_keep_35 : decode c_M_keep 35 = .ok (.getfield 60, 3) := by decide +kernel
theorem d_M_keep_38 : decode c_M_keep 38 = .ok (.if_icmp .ge (12), 3) := by decide +kernel
theorem d_M_keep_41 : decode c_M_keep 41 = .ok (.aload_n 0, 1) := by decide +kernel
theorem d_M_keep_42 : decode c_M_keep 42 = .ok (.getfield 49, 3) := by decide +kernel
theorem d_M_keep_45 : decode c_M_keep 45 = .ok (.iload_n 2, 1) := by decide +kernel
theorem d_M_keep_46 : decode c_M_keep 46 = .ok (.iaload, 1) := by decide +kernel
theorem d_M_keep_47 : decode c_M_keep 47 = .ok (.goto (4), 3) := by decide +kernel
theorem d_M_keep_50 : decode c_M_keep 50 = .ok (.iconst 0, 1) := by decide +kernel
theorem d_M_keep_51 : decode c_M_keep 51 = .ok (.iastore, 1) := by decide +kernel
theorem d_M_keep_52 : decode c_M_keep 52 = .ok (.iinc 2 (1), 3) := by decide +kernel
theorem d_M_keep_55 : decode c_M_keep 55 = .ok (.goto (-36), 3) := by decide +kernel
theorem d_M_keep_58 : decode c_M_keep 58 = .ok (.return_, 1) := by decide +kernel
theorem d_M_plan_0 : decode c_M_plan 0 = .ok (.aload_n 0, 1) := by decide +kernel
theorem d_M_plan_1 : decode c_M_plan 1 = .ok (.aload_n 0, 1) := by decide +kernel
theorem d_M_plan_2 : decode c_M_plan 2 = .ok (.iload_n 1, 1) := by decide +kernel
theorem d_M_plan_3 : decode c_M_plan 3 = .ok (.invokevirtual 92, 3) := by decide +kernel
theorem d_M_plan_6 : decode c_M_plan 6 = .ok (.ifCond .ne (7), 3) := by decide +kernel
theorem d_M_plan_9 : decode c_M_plan 9 = .ok (.iconst 1, 1) := by decide +kernel
theorem d_M_plan_10 : decode c_M_plan 10 = .ok (.goto (4), 3) := by decide +kernel
theorem d_M_plan_13 : decode c_M_plan 13 = .ok (.iconst 0, 1) := by decide +kernel
theorem d_M_plan_14 : decode c_M_plan 14 = .ok (.iload_n 2, 1) := by decide +kernel
theorem d_M_plan_15 : decode c_M_plan 15 = .ok (.i2l, 1) := by decide +kernel
theorem d_M_plan_16 : decode c_M_plan 16 = .ok (.lconst 0, 1) := by decide +kernel
theorem d_M_plan_17 : decode c_M_plan 17 = .ok (.ldc2_w 72, 3) := by decide +kernel
theorem d_M_plan_20 : decode c_M_plan 20 = .ok (.invokestatic 63, 3) := by decide +kernel
theorem d_M_plan_23 : decode c_M_plan 23 = .ok (.ifCond .ne (7), 3) := by decide +kernel
theorem d_M_plan_26 : decode c_M_plan 26 = .ok (.iconst 1, 1) := by decide +kernel
theorem d_M_plan_27 : decode c_M_plan 27 = .ok (.goto (4), 3) := by decide +kernel
theorem d_M_plan_30 : decode c_M_plan 30 = .ok (.iconst 0, 1) := by decide +kernel
theorem d_M_plan_31 : decode c_M_plan 31 = .ok (.iconst 0, 1) := by decide +kernel
theorem d_M_plan_32 : decode c_M_plan 32 = .ok (.invokevirtual 76, 3) := by decide +kernel
theorem d_M_plan_35 : decode c_M_plan 35 = .ok (.ifCond .eq (5), 3) := by decide +kernel
theorem d_M_plan_38 : decode c_M_plan 38 = .ok (.iconst 0, 1) := by decide +kernel
theorem d_M_plan_39 : decode c_M_plan 39 = .ok (.ireturn, 1) := by decide +kernel
theorem d_M_plan_40 : decode c_M_plan 40 = .ok (.aload_n 0, 1) := by decide +kernel
theorem d_M_plan_41 : decode c_M_plan 41 = .ok (.iconst 1, 1) := by decide +kernel
theorem d_M_plan_42 : decode c_M_plan 42 = .ok (.putfield 101, 3) := by decide +kernel
theorem d_M_plan_45 : decode c_M_plan 45 = .ok (.aload_n 0, 1) := by decide +kernel
theorem d_M_plan_46 : decode c_M_plan 46 = .ok (.iconst 0, 1) := by decide +kernel
theorem d_M_plan_47 : decode c_M_plan 47 = .ok (.putfield 105, 3) := by decide +kernel
theorem d_M_plan_50 : decode c_M_plan 50 = .ok (.aload_n 0, 1) := by decide +kernel
theorem d_M_plan_51 : decode c_M_plan 51 = .ok (.iconst 0, 1) := by decide +kernel
theorem d_M_plan_52 : decode c_M_plan 52 = .ok (.putfield 108, 3) := by decide +kernel
theorem d_M_plan_55 : decode c_M_plan 55 = .ok (.aload_n 0, 1) := by decide +kernel
theorem d_M_plan_56 : decode c_M_plan 56 = .ok (.getfield 43, 3) := by decide +kernel
