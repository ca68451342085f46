theorem d_CP_bound_107 : decode c_CP_bound 107 = .ok (.lload_n 2, 1) := by decide +kernel
theorem d_CP_bound_108 : decode c_CP_bound 108 = .ok (.lload 7, 2) := by decide +kernel
theorem d_CP_bound_110 : decode c_CP_bound 110 = .ok (.invokestatic 148, 3) := by decide +kernel
theorem d_CP_bound_113 : decode c_CP_bound 113 = .ok (.lstore_n 2, 1) := by decide +kernel
theorem d_CP_bound_114 : decode c_CP_bound 114 = .ok (.iinc 4 (1), 3) := by decide +kernel
theorem d_CP_bound_117 : decode c_CP_bound 117 = .ok (.goto (-99), 3) := by decide +kernel
theorem d_CP_bound_120 : decode c_CP_bound 120 = .ok (.lload_n 2, 1) := by decide +kernel
theorem d_CP_bound_121 : decode c_CP_bound 121 = .ok (.ldc2_w 133, 3) := by decide +kernel
theorem d_CP_bound_124 : decode c_CP_bound 124 = .ok (.lcmp, 1) := by decide +kernel
theorem d_CP_bound_125 : decode c_CP_bound 125 = .ok (.ifCond .eq (7), 3) := by decide +kernel
theorem d_CP_bound_128 : decode c_CP_bound 128 = .ok (.iconst 1, 1) := by decide +kernel
theorem d_CP_bound_129 : decode c_CP_bound 129 = .ok (.goto (4), 3) := by decide +kernel
theorem d_CP_bound_132 : decode c_CP_bound 132 = .ok (.iconst 0, 1) := by decide +kernel
theorem d_CP_bound_133 : decode c_CP_bound 133 = .ok (.invokestatic 78, 3) := by decide +kernel
theorem d_CP_bound_136 : decode c_CP_bound 136 = .ok (.lload_n 2, 1) := by decide +kernel
theorem d_CP_bound_137 : decode c_CP_bound 137 = .ok (.lreturn, 1) := by decide +kernel
theorem d_CP_clash_0 : decode c_CP_clash 0 = .ok (.iload_n 1, 1) := by decide +kernel
theorem d_CP_clash_1 : decode c_CP_clash 1 = .ok (.aload_n 0, 1) := by decide +kernel
theorem d_CP_clash_2 : decode c_CP_clash 2 = .ok (.getfield 19, 3) := by decide +kernel
theorem d_CP_clash_5 : decode c_CP_clash 5 = .ok (.getfield 81, 3) := by decide +kernel
theorem d_CP_clash_8 : decode c_CP_clash 8 = .ok (.invokestatic 54, 3) := by decide +kernel
theorem d_CP_clash_11 : decode c_CP_clash 11 = .ok (.aload_n 0, 1) := by decide +kernel
theorem d_CP_clash_12 : decode c_CP_clash 12 = .ok (.getfield 33, 3) := by decide +kernel
theorem d_CP_clash_15 : decode c_CP_clash 15 = .ok (.aload_n 0, 1) := by decide +kernel
theorem d_CP_clash_16 : decode c_CP_clash 16 = .ok (.getfield 10, 3) := by decide +kernel
theorem d_CP_clash_19 : decode c_CP_clash 19 = .ok (.aload_n 0, 1) := by decide +kernel
theorem d_CP_clash_20 : decode c_CP_clash 20 = .ok (.getfield 19, 3) := by decide +kernel
theorem d_CP_clash_23 : decode c_CP_clash 23 = .ok (.iload_n 1, 1) := by decide +kernel
theorem d_CP_clash_24 : decode c_CP_clash 24 = .ok (.invokevirtual 153, 3) := by decide +kernel
theorem d_CP_clash_27 : decode c_CP_clash 27 = .ok (.ireturn, 1) := by decide +kernel
theorem d_CP_take_0 : decode c_CP_take 0 = .ok (.iload_n 1, 1) := by decide +kernel
theorem d_CP_take_1 : decode c_CP_take 1 = .ok (.aload_n 0, 1) := by decide +kernel
theorem d_CP_take_2 : decode c_CP_take 2 = .ok (.getfield 19, 3) := by decide +kernel
theorem d_CP_take_5 : decode c_CP_take 5 = .ok (.getfield 81, 3) := by decide +kernel
theorem d_CP_take_8 : decode c_CP_take 8 = .ok (.invokestatic 54, 3) := by decide +kernel
theorem d_CP_take_11 : decode c_CP_take 11 = .ok (.aload_n 0, 1) := by decide +kernel
theorem d_CP_take_12 : decode c_CP_take 12 = .ok (.getfield 19, 3) := by decide +kernel
theorem d_CP_take_15 : decode c_CP_take 15 = .ok (.iload_n 1, 1) := by decide +kernel
theorem d_CP_take_16 : decode c_CP_take 16 = .ok (.invokevirtual 114, 3) := by decide +kernel
theorem d_CP_take_19 : decode c_CP_take 19 = .ok (.invokestatic 41, 3) := by decide +kernel
theorem d_CP_take_22 : decode c_CP_take 22 = .ok (.aload_n 0, 1) := by decide +kernel
theorem d_CP_take_23 : decode c_CP_take 23 = .ok (.iload_n 1, 1) := by decide +kernel
theorem d_CP_take_24 : decode c_CP_take 24 = .ok (.invokevirtual 157, 3) := by decide +kernel
theorem d_CP_take_27 : decode c_CP_take 27 = .ok (.invokestatic 78, 3) := by decide +kernel
theorem d_CP_take_30 : decode c_CP_take 30 = .ok (.iconst 0, 1) := by decide +kernel
theorem d_CP_take_31 : decode c_CP_take 31 = .ok (.istore_n 2, 1) := by decide +kernel
theorem d_CP_take_32 : decode c_CP_take 32 = .ok (.iload_n 2, 1) := by decide +kernel
theorem d_CP_take_33 : decode c_CP_take 33 = .ok (.aload_n 0, 1) := by decide +kernel
theorem d_CP_take_34 : decode c_CP_take 34 = .ok (.getfield 10, 3) := by decide +kernel
theorem d_CP_take_37 : decode c_CP_take 37 = .ok (.getfield 37, 3) := by decide +kernel
theorem d_CP_take_40 : decode c_CP_take 40 = .ok (.if_icmp .ge (34), 3) := by decide +kernel
theorem d_CP_take_43 : decode c_CP_take 43 = .ok (.aload_n 0, 1) := by decide +kernel
theorem d_CP_take_44 : decode c_CP_take 44 = .ok (.getfield 10, 3) := by decide +kernel
theorem d_CP_take_47 : decode c_CP_take 47 = .ok (.getfield 75, 3) := by decide +kernel
theorem d_CP_take_50 : decode c_CP_take 50 = .ok (.iload_n 2, 1) := by decide +kernel
theorem d_CP_take_51 : decode c_CP_take 51 = .ok (.dup2, 1) := by decide +kernel
theorem d_CP_take_52 : decode c_CP_take 52 = .ok (.iaload, 1) := by decide +kernel
theorem d_CP_take_53 : decode c_CP_take 53 = .ok (.aload_n 0, 1) := by decide +kernel
theorem d_CP_take_54 : decode c_CP_take 54 = .ok (.getfield 19, 3) := by decide +kernel
theorem d_CP_take_57 : decode c_CP_take 57 = .ok (.getfield 118, 3) := by decide +kernel
theorem d_CP_take_60 : decode c_CP_take 60 = .ok (.iload_n 1, 1) := by decide +kernel
theorem d_CP_take_61 : decode c_CP_take 61 = .ok (.iconst 5, 1) := by decide +kernel
theorem d_CP_take_62 : decode c_CP_take 62 = .ok (.imul, 1) := by decide +kernel
theorem d_CP_take_63 : decode c_CP_take 63 = .ok (.iload_n 2, 1) := by decide +kernel
theorem d_CP_take_64 : decode c_CP_take 64 = .ok (.iadd, 1) := by decide +kernel
theorem d_CP_take_65 : decode c_CP_take 65 = .ok (.iaload, 1) := by decide +kernel
theorem d_CP_take_66 : decode c_CP_take 66 = .ok (.isub, 1) := by decide +kernel
theorem d_CP_take_67 : decode c_CP_take 67 = .ok (.iastore, 1) := by decide +kernel
theorem d_CP_take_68 : decode c_CP_take 68 = .ok (.iinc 2 (1), 3) := by decide +kernel
theorem d_CP_take_71 : decode c_CP_take 71 = .ok (.goto (-39), 3) := by decide +kernel
theorem d_CP_take_74 : decode c_CP_take 74 = .ok (.aload_n 0, 1) := by decide +kernel
theorem d_CP_take_75 : decode c_CP_take 75 = .ok (.getfield 19, 3) := by decide +kernel
theorem d_CP_take_78 : decode c_CP_take 78 = .ok (.getfield 160, 3) := by decide +kernel
theorem d_CP_take_81 : decode c_CP_take 81 = .ok (.iload_n 1, 1) := by decide +kernel
theorem d_CP_take_82 : decode c_CP_take 82 = .ok (.iaload, 1) := by decide +kernel
theorem d_CP_take_83 : decode c_CP_take 83 = .ok (.istore_n 2, 1) := by decide +kernel
theorem d_CP_take_84 : decode c_CP_take 84 = .ok (.aload_n 0, 1) := by decide +kernel
theorem d_CP_take_85 : decode c_CP_take 85 = .ok (.getfield 19, 3) := by decide +kernel
theorem d_CP_take_88 : decode c_CP_take 88 = .ok (.getfield 160, 3) := by decide +kernel
theorem d_CP_take_91 : decode c_CP_take 91 = .ok (.iload_n 1, 1) := by decide +kernel
theorem d_CP_take_92 : decode c_CP_take 92 = .ok (.iconst (-1), 1) := by decide +kernel
theorem d_CP_take_93 : decode c_CP_take 93 = .ok (.iastore, 1) := by decide +kernel
theorem d_CP_take_94 : decode c_CP_take 94 = .ok (.iload_n 2, 1) := by decide +kernel
theorem d_CP_take_95 : decode c_CP_take 95 = .ok (.ireturn, 1) := by decide +kernel
theorem d_CP_stock_0 : decode c_CP_stock 0 = .ok (.iload_n 1, 1) := by decide +kernel
theorem d_CP_stock_1 : decode c_CP_stock 1 = .ok (.aload_n 0, 1) := by decide +kernel
theorem d_CP_stock_2 : decode c_CP_stock 2 = .ok (.getfield 10, 3) := by decide +kernel
theorem d_CP_stock_5 : decode c_CP_stock 5 = .ok (.getfield 37, 3) := by decide +kernel
theorem d_CP_stock_8 : decode c_CP_stock 8 = .ok (.invokestatic 54, 3) := by decide +kernel
theorem d_CP_stock_11 : decode c_CP_stock 11 = .ok (.aload_n 0, 1) := by decide +kernel
theorem d_CP_stock_12 : decode c_CP_stock 12 = .ok (.getfield 10, 3) := by decide +kernel
theorem d_CP_stock_15 : decode c_CP_stock 15 = .ok (.getfield 75, 3) := by decide +kernel
theorem d_CP_stock_18 : decode c_CP_stock 18 = .ok (.iload_n 1, 1) := by decide +kernel
theorem d_CP_stock_19 : decode c_CP_stock 19 = .ok (.iaload, 1) := by decide +kernel
theorem d_CP_stock_20 : decode c_CP_stock 20 = .ok (.ireturn, 1) := by decide +kernel
theorem d_CP_enoughLeft_0 : decode c_CP_enoughLeft 0 = .ok (.iconst 0, 1) := by decide +kernel
theorem d_CP_enoughLeft_1 : decode c_CP_enoughLeft 1 = .ok (.istore_n 2, 1) := by decide +kernel
theorem d_CP_enoughLeft_2 : decode c_CP_enoughLeft 2 = .ok (.iload_n 2, 1) := by decide +kernel
theorem d_CP_enoughLeft_3 : decode c_CP_enoughLeft 3 = .ok (.aload_n 0, 1) := by decide +kernel
theorem d_CP_enoughLeft_4 : decode c_CP_enoughLeft 4 = .ok (.getfield 10, 3) := by decide +kernel
theorem d_CP_enoughLeft_7 : decode c_CP_enoughLeft 7 = .ok (.getfield 37, 3) := by decide +kernel
theorem d_CP_enoughLeft_10 : decode c_CP_enoughLeft 10 = .ok (.if_icmp .ge (36), 3) := by decide +kernel
theorem d_CP_enoughLeft_13 : decode c_CP_enoughLeft 13 = .ok (.aload_n 0, 1) := by decide +kernel
theorem d_CP_enoughLeft_14 : decode c_CP_enoughLeft 14 = .ok (.getfield 10, 3) := by decide +kernel
theorem d_CP_enoughLeft_17 : decode c_CP_enoughLeft 17 = .ok (.getfield 75, 3) := by decide +kernel
theorem d_CP_enoughLeft_20 : decode c_CP_enoughLeft 20 = .ok (.iload_n 2, 1) := by decide +kernel
theorem d_CP_enoughLeft_21 : decode c_CP_enoughLeft 21 = .ok (.iaload, 1) := by decide +kernel
theorem d_CP_enoughLeft_22 : decode c_CP_enoughLeft 22 = .ok (.aload_n 0, 1) := by decide +kernel
theorem d_CP_enoughLeft_23 : decode c_CP_enoughLeft 23 = .ok (.getfield 19, 3) := by decide +kernel
theorem d_CP_enoughLeft_26 : decode c_CP_enoughLeft 26 = .ok (.getfield 118, 3) := by decide +kernel
theorem d_CP_enoughLeft_29 : decode c_CP_enoughLeft 29 = .ok (.iload_n 1, 1) := by decide +kernel
theorem d_CP_enoughLeft_30 : decode c_CP_enoughLeft 30 = .ok (.iconst 5, 1) := by decide +kernel
theorem d_CP_enoughLeft_31 : decode c_CP_enoughLeft 31 = .ok (.imul, 1) := by decide +kernel
theorem d_CP_enoughLeft_32 : decode c_CP_enoughLeft 32 = .ok (.iload_n 2, 1) := by decide +kernel
theorem d_CP_enoughLeft_33 : decode c_CP_enoughLeft 33 = .ok (.iadd, 1) := by decide +kernel
theorem d_CP_enoughLeft_34 : decode c_CP_enoughLeft 34 = .ok (.iaload, 1) := by decide +kernel
theorem d_CP_enoughLeft_35 : decode c_CP_enoughLeft 35 = .ok (.if_icmp .ge (5), 3) := by decide +kernel
theorem d_CP_enoughLeft_38 : decode c_CP_enoughLeft 38 = .ok (.iconst 0, 1) := by decide +kernel
theorem d_CP_enoughLeft_39 : decode c_CP_enoughLeft 39 = .ok (.ireturn, 1) := by decide +kernel
theorem d_CP_enoughLeft_40 : decode c_CP_enoughLeft 40 = .ok (.iinc 2 (1), 3) := by decide +kernel
theorem d_CP_enoughLeft_43 : decode c_CP_enoughLeft 43 = .ok (.goto (-41), 3) := by decide +kernel
theorem d_CP_enoughLeft_46 : decode c_CP_enoughLeft 46 = .ok (.iconst 1, 1) := by decide +kernel
theorem d_CP_enoughLeft_47 : decode c_CP_enoughLeft 47 = .ok (.ireturn, 1) := by decide +kernel
theorem d_CP_plannedKilos_0 : decode c_CP_plannedKilos 0 = .ok (.lconst 0, 1) := by decide +kernel
theorem d_CP_plannedKilos_1 : decode c_CP_plannedKilos 1 = .ok (.lstore_n 2, 1) := by decide +kernel
theorem d_CP_plannedKilos_2 : decode c_CP_plannedKilos 2 = .ok (.iconst 0, 1) := by decide +kernel
theorem d_CP_plannedKilos_3 : decode c_CP_plannedKilos 3 = .ok (.istore 4, 2) := by decide +kernel
theorem d_CP_plannedKilos_5 : decode c_CP_plannedKilos 5 = .ok (.iload 4, 2) := by decide +kernel
theorem d_CP_plannedKilos_7 : decode c_CP_plannedKilos 7 = .ok (.aload_n 0, 1) := by decide +kernel
theorem d_CP_plannedKilos_8 : decode c_CP_plannedKilos 8 = .ok (.getfield 10, 3) := by decide +kernel
theorem d_CP_plannedKilos_11 : decode c_CP_plannedKilos 11 = .ok (.getfield 37, 3) := by decide +kernel
theorem d_CP_plannedKilos_14 : decode c_CP_plannedKilos 14 = .ok (.if_icmp .ge (39), 3) := by decide +kernel
theorem d_CP_plannedKilos_17 : decode c_CP_plannedKilos 17 = .ok (.lload_n 2, 1) := by decide +kernel
theorem d_CP_plannedKilos_18 : decode c_CP_plannedKilos 18 = .ok (.aload_n 0, 1) := by decide +kernel
theorem d_CP_plannedKilos_19 : decode c_CP_plannedKilos 19 = .ok (.getfield 19, 3) := by decide +kernel
theorem d_CP_plannedKilos_22 : decode c_CP_plannedKilos 22 = .ok (.getfield 118, 3) := by decide +kernel
theorem d_CP_plannedKilos_25 : decode c_CP_plannedKilos 25 = .ok (.iload_n 1, 1) := by decide +kernel
theorem d_CP_plannedKilos_26 : decode c_CP_plannedKilos 26 = .ok (.iconst 5, 1) := by decide +kernel
theorem d_CP_plannedKilos_27 : decode c_CP_plannedKilos 27 = .ok (.imul, 1) := by decide +kernel
theorem d_CP_plannedKilos_28 : decode c_CP_plannedKilos 28 = .ok (.iload 4, 2) := by decide +kernel
theorem d_CP_plannedKilos_30 : decode c_CP_plannedKilos 30 = .ok (.iadd, 1) := by decide +kernel
theorem d_CP_plannedKilos_31 : decode c_CP_plannedKilos 31 = .ok (.iaload, 1) := by decide +kernel
theorem d_CP_plannedKilos_32 : decode c_CP_plannedKilos 32 = .ok (.i2l, 1) := by decide +kernel
theorem d_CP_plannedKilos_33 : decode c_CP_plannedKilos 33 = .ok (.aload_n 0, 1) := by decide +kernel
theorem d_CP_plannedKilos_34 : decode c_CP_plannedKilos 34 = .ok (.getfield 10, 3) := by decide +kernel
theorem d_CP_plannedKilos_37 : decode c_CP_plannedKilos 37 = .ok (.getfield 135, 3) := by decide +kernel
theorem d_CP_plannedKilos_40 : decode c_CP_plannedKilos 40 = .ok (.iload 4, 2) := by decide +kernel
theorem d_CP_plannedKilos_42 : decode c_CP_plannedKilos 42 = .ok (.iaload, 1) := by decide +kernel
theorem d_CP_plannedKilos_43 : decode c_CP_plannedKilos 43 = .ok (.i2l, 1) := by decide +kernel
theorem d_CP_plannedKilos_44 : decode c_CP_plannedKilos 44 = .ok (.lmul, 1) := by decide +kernel
theorem d_CP_plannedKilos_45 : decode c_CP_plannedKilos 45 = .ok (.ladd, 1) := by decide +kernel
theorem d_CP_plannedKilos_46 : decode c_CP_plannedKilos 46 = .ok (.lstore_n 2, 1) := by decide +kernel
theorem d_CP_plannedKilos_47 : decode c_CP_plannedKilos 47 = .ok (.iinc 4 (1), 3) := by decide +kernel
theorem d_CP_plannedKilos_50 : decode c_CP_plannedKilos 50 = .ok (.goto (-45), 3) := by decide +kernel
theorem d_CP_plannedKilos_53 : decode c_CP_plannedKilos 53 = .ok (.lload_n 2, 1) := by decide +kernel
theorem d_CP_plannedKilos_54 : decode c_CP_plannedKilos 54 = .ok (.lreturn, 1) := by decide +kernel
theorem d_CP_plannedShares_0 : decode c_CP_plannedShares 0 = .ok (.lconst 0, 1) := by decide +kernel
theorem d_CP_plannedShares_1 : decode c_CP_plannedShares 1 = .ok (.lstore 4, 2) := by decide +kernel
theorem d_CP_plannedShares_3 : decode c_CP_plannedShares 3 = .ok (.iconst 0, 1) := by decide +kernel
theorem d_CP_plannedShares_4 : decode c_CP_plannedShares 4 = .ok (.istore 6, 2) := by decide +kernel
theorem d_CP_plannedShares_6 : decode c_CP_plannedShares 6 = .ok (.iload 6, 2) := by decide +kernel
theorem d_CP_plannedShares_8 : decode c_CP_plannedShares 8 = .ok (.aload_n 0, 1) := by decide +kernel
theorem d_CP_plannedShares_9 : decode c_CP_plannedShares 9 = .ok (.getfield 10, 3) := by decide +kernel
theorem d_CP_plannedShares_12 : decode c_CP_plannedShares 12 = .ok (.getfield 37, 3) := by decide +kernel
theorem d_CP_plannedShares_15 : decode c_CP_plannedShares 15 = .ok (.if_icmp .ge (55), 3) := by decide +kernel
theorem d_CP_plannedShares_18 : decode c_CP_plannedShares 18 = .ok (.aload_n 0, 1) := by decide +kernel
theorem d_CP_plannedShares_19 : decode c_CP_plannedShares 19 = .ok (.getfield 19, 3) := by decide +kernel
theorem d_CP_plannedShares_22 : decode c_CP_plannedShares 22 = .ok (.getfield 118, 3) := by decide +kernel
theorem d_CP_plannedShares_25 : decode c_CP_plannedShares 25 = .ok (.iload_n 1, 1) := by decide +kernel
theorem d_CP_plannedShares_26 : decode c_CP_plannedShares 26 = .ok (.iconst 5, 1) := by decide +kernel
theorem d_CP_plannedShares_27 : decode c_CP_plannedShares 27 = .ok (.imul, 1) := by decide +kernel
theorem d_CP_plannedShares_28 : decode c_CP_plannedShares 28 = .ok (.iload 6, 2) := by decide +kernel
theorem d_CP_plannedShares_30 : decode c_CP_plannedShares 30 = .ok (.iadd, 1) := by decide +kernel
theorem d_CP_plannedShares_31 : decode c_CP_plannedShares 31 = .ok (.iaload, 1) := by decide +kernel
theorem d_CP_plannedShares_32 : decode c_CP_plannedShares 32 = .ok (.i2l, 1) := by decide +kernel
theorem d_CP_plannedShares_33 : decode c_CP_plannedShares 33 = .ok (.aload_n 0, 1) := by decide +kernel
theorem d_CP_plannedShares_34 : decode c_CP_plannedShares 34 = .ok (.getfield 10, 3) := by decide +kernel
theorem d_CP_plannedShares_37 : decode c_CP_plannedShares 37 = .ok (.getfield 135, 3) := by decide +kernel
theorem d_CP_plannedShares_40 : decode c_CP_plannedShares 40 = .ok (.iload 6, 2) := by decide +kernel
theorem d_CP_plannedShares_42 : decode c_CP_plannedShares 42 = .ok (.iaload, 1) := by decide +kernel
theorem d_CP_plannedShares_43 : decode c_CP_plannedShares 43 = .ok (.i2l, 1) := by decide +kernel
theorem d_CP_plannedShares_44 : decode c_CP_plannedShares 44 = .ok (.lmul, 1) := by decide +kernel
theorem d_CP_plannedShares_45 : decode c_CP_plannedShares 45 = .ok (.lstore 7, 2) := by decide +kernel
theorem d_CP_plannedShares_47 : decode c_CP_plannedShares 47 = .ok (.lload 4, 2) := by decide +kernel
theorem d_CP_plannedShares_49 : decode c_CP_plannedShares 49 = .ok (.lload 7, 2) := by decide +kernel
theorem d_CP_plannedShares_51 : decode c_CP_plannedShares 51 = .ok (.aload_n 3, 1) := by decide +kernel
theorem d_CP_plannedShares_52 : decode c_CP_plannedShares 52 = .ok (.iload 6, 2) := by decide +kernel
theorem d_CP_plannedShares_54 : decode c_CP_plannedShares 54 = .ok (.iconst 4, 1) := by decide +kernel
theorem d_CP_plannedShares_55 : decode c_CP_plannedShares 55 = .ok (.imul, 1) := by decide +kernel
theorem d_CP_plannedShares_56 : decode c_CP_plannedShares 56 = .ok (.iload_n 2, 1) := by decide +kernel
theorem d_CP_plannedShares_57 : decode c_CP_plannedShares 57 = .ok (.iadd, 1) := by decide +kernel
theorem d_CP_plannedShares_58 : decode c_CP_plannedShares 58 = .ok (.iaload, 1) := by decide +kernel
theorem d_CP_plannedShares_59 : decode c_CP_plannedShares 59 = .ok (.i2l, 1) := by decide +kernel
theorem d_CP_plannedShares_60 : decode c_CP_plannedShares 60 = .ok (.lmul, 1) := by decide +kernel
theorem d_CP_plannedShares_61 : decode c_CP_plannedShares 61 = .ok (.ladd, 1) := by decide +kernel
theorem d_CP_plannedShares_62 : decode c_CP_plannedShares 62 = .ok (.lstore 4, 2) := by decide +kernel
theorem d_CP_plannedShares_64 : decode c_CP_plannedShares 64 = .ok (.iinc 6 (1), 3) := by decide +kernel
theorem d_CP_plannedShares_67 : decode c_CP_plannedShares 67 = .ok (.goto (-61), 3) := by decide +kernel
theorem d_CP_plannedShares_70 : decode c_CP_plannedShares 70 = .ok (.lload 4, 2) := by decide +kernel
theorem d_CP_plannedShares_72 : decode c_CP_plannedShares 72 = .ok (.lreturn, 1) := by decide +kernel
theorem d_CP_commonDivisor_0 : decode c_CP_commonDivisor 0 = .ok (.lload_n 0, 1) := by decide +kernel
theorem d_CP_commonDivisor_1 : decode c_CP_commonDivisor 1 = .ok (.lstore 4, 2) := by decide +kernel
theorem d_CP_commonDivisor_3 : decode c_CP_commonDivisor 3 = .ok (.lload_n 2, 1) := by decide +kernel
theorem d_CP_commonDivisor_4 : decode c_CP_commonDivisor 4 = .ok (.lstore 6, 2) := by decide +kernel
theorem d_CP_commonDivisor_6 : decode c_CP_commonDivisor 6 = .ok (.iconst 0, 1) := by decide +kernel
theorem d_CP_commonDivisor_7 : decode c_CP_commonDivisor 7 = .ok (.istore 8, 2) := by decide +kernel
theorem d_CP_commonDivisor_9 : decode c_CP_commonDivisor 9 = .ok (.iload 8, 2) := by decide +kernel
theorem d_CP_commonDivisor_11 : decode c_CP_commonDivisor 11 = .ok (.bipush (100), 2) := by decide +kernel
theorem d_CP_commonDivisor_13 : decode c_CP_commonDivisor 13 = .ok (.if_icmp .ge (31), 3) := by decide +kernel
theorem d_CP_commonDivisor_16 : decode c_CP_commonDivisor 16 = .ok (.lload 6, 2) := by decide +kernel
theorem d_CP_commonDivisor_18 : decode c_CP_commonDivisor 18 = .ok (.lconst 0, 1) := by decide +kernel
theorem d_CP_commonDivisor_19 : decode c_CP_commonDivisor 19 = .ok (.lcmp, 1) := by decide +kernel
theorem d_CP_commonDivisor_20 : decode c_CP_commonDivisor 20 = .ok (.ifCond .eq (24), 3) := by decide +kernel
theorem d_CP_commonDivisor_23 : decode c_CP_commonDivisor 23 = .ok (.lload 4, 2) := by decide +kernel
theorem d_CP_commonDivisor_25 : decode c_CP_commonDivisor 25 = .ok (.lload 6, 2) := by decide +kernel
theorem d_CP_commonDivisor_27 : decode c_CP_commonDivisor 27 = .ok (.lrem, 1) := by decide +kernel
theorem d_CP_commonDivisor_28 : decode c_CP_commonDivisor 28 = .ok (.lstore 9, 2) := by decide +kernel
theorem d_CP_commonDivisor_30 : decode c_CP_commonDivisor 30 = .ok (.lload 6, 2) := by decide +kernel
theorem d_CP_commonDivisor_32 : decode c_CP_commonDivisor 32 = .ok (.lstore 4, 2) := by decide +kernel
theorem d_CP_commonDivisor_34 : decode c_CP_commonDivisor 34 = .ok (.lload 9, 2) := by decide +kernel
theorem d_CP_commonDivisor_36 : decode c_CP_commonDivisor 36 = .ok (.lstore 6, 2) := by decide +kernel
theorem d_CP_commonDivisor_38 : decode c_CP_commonDivisor 38 = .ok (.iinc 8 (1), 3) := by decide +kernel
theorem d_CP_commonDivisor_41 : decode c_CP_commonDivisor 41 = .ok (.goto (-32), 3) := by decide +kernel
theorem d_CP_commonDivisor_44 : decode c_CP_commonDivisor 44 = .ok (.lload 4, 2) := by decide +kernel
theorem d_CP_commonDivisor_46 : decode c_CP_commonDivisor 46 = .ok (.lconst 1, 1) := by decide +kernel
theorem d_CP_commonDivisor_47 : decode c_CP_commonDivisor 47 = .ok (.invokestatic 163, 3) := by decide +kernel
theorem d_CP_commonDivisor_50 : decode c_CP_commonDivisor 50 = .ok (.lreturn, 1) := by decide +kernel
theorem d_CP_requireIndex_0 : decode c_CP_requireIndex 0 = .ok (.iload_n 0, 1) := by decide +kernel
theorem d_CP_requireIndex_1 : decode c_CP_requireIndex 1 = .ok (.ifCond .lt (8), 3) := by decide +kernel
theorem d_CP_requireIndex_4 : decode c_CP_requireIndex 4 = .ok (.iload_n 0, 1) := by decide +kernel
theorem d_CP_requireIndex_5 : decode c_CP_requireIndex 5 = .ok (.iload_n 1, 1) := by decide +kernel
theorem d_CP_requireIndex_6 : decode c_CP_requireIndex 6 = .ok (.if_icmp .lt (13), 3) := by decide +kernel
theorem d_CP_requireIndex_9 : decode c_CP_requireIndex 9 = .ok (.new 166, 3) := by decide +kernel
theorem d_CP_requireIndex_12 : decode c_CP_requireIndex 12 = .ok (.dup, 1) := by decide +kernel
theorem d_CP_requireIndex_13 : decode c_CP_requireIndex 13 = .ok (.ldc 168, 2) := by decide +kernel
theorem d_CP_requireIndex_15 : decode c_CP_requireIndex 15 = .ok (.invokespecial 170, 3) := by decide +kernel
theorem d_CP_requireIndex_18 : decode c_CP_requireIndex 18 = .ok (.athrow, 1) := by decide +kernel
theorem d_CP_requireIndex_19 : decode c_CP_requireIndex 19 = .ok (.return_, 1) := by decide +kernel
theorem d_CP_requireTurn_0 : decode c_CP_requireTurn 0 = .ok (.iload_n 0, 1) := by decide +kernel
theorem d_CP_requireTurn_1 : decode c_CP_requireTurn 1 = .ok (.ifCond .ne (13), 3) := by decide +kernel
theorem d_CP_requireTurn_4 : decode c_CP_requireTurn 4 = .ok (.new 173, 3) := by decide +kernel
theorem d_CP_requireTurn_7 : decode c_CP_requireTurn 7 = .ok (.dup, 1) := by decide +kernel
theorem d_CP_requireTurn_8 : decode c_CP_requireTurn 8 = .ok (.ldc 175, 2) := by decide +kernel
theorem d_CP_requireTurn_10 : decode c_CP_requireTurn 10 = .ok (.invokespecial 177, 3) := by decide +kernel
theorem d_CP_requireTurn_13 : decode c_CP_requireTurn 13 = .ok (.athrow, 1) := by decide +kernel
theorem d_CP_requireTurn_14 : decode c_CP_requireTurn 14 = .ok (.return_, 1) := by decide +kernel
theorem d_CP_requireArgument_0 : decode c_CP_requireArgument 0 = .ok (.iload_n 0, 1) := by decide +kernel
theorem d_CP_requireArgument_1 : decode c_CP_requireArgument 1 = .ok (.ifCond .ne (13), 3) := by decide +kernel
theorem d_CP_requireArgument_4 : decode c_CP_requireArgument 4 = .ok (.new 178, 3) := by decide +kernel
theorem d_CP_requireArgument_7 : decode c_CP_requireArgument 7 = .ok (.dup, 1) := by decide +kernel
theorem d_CP_requireArgument_8 : decode c_CP_requireArgument 8 = .ok (.ldc 180, 2) := by decide +kernel
theorem d_CP_requireArgument_10 : decode c_CP_requireArgument 10 = .ok (.invokespecial 182, 3) := by decide +kernel
theorem d_CP_requireArgument_13 : decode c_CP_requireArgument 13 = .ok (.athrow, 1) := by decide +kernel
theorem d_CP_requireArgument_14 : decode c_CP_requireArgument 14 = .ok (.return_, 1) := by decide +kernel
theorem d_CP_requireRange_0 : decode c_CP_requireRange 0 = .ok (.iload_n 0, 1) := by decide +kernel
theorem d_CP_requireRange_1 : decode c_CP_requireRange 1 = .ok (.iload_n 1, 1) := by decide +kernel
theorem d_CP_requireRange_2 : decode c_CP_requireRange 2 = .ok (.if_icmp .lt (12), 3) := by decide +kernel
theorem d_CP_requireRange_5 : decode c_CP_requireRange 5 = .ok (.iload_n 0, 1) := by decide +kernel
theorem d_CP_requireRange_6 : decode c_CP_requireRange 6 = .ok (.iload_n 2, 1) := by decide +kernel
theorem d_CP_requireRange_7 : decode c_CP_requireRange 7 = .ok (.if_icmp .gt (7), 3) := by decide +kernel
theorem d_CP_requireRange_10 : decode c_CP_requireRange 10 = .ok (.iconst 1, 1) := by decide +kernel
theorem d_CP_requireRange_11 : decode c_CP_requireRange 11 = .ok (.goto (4), 3) := by decide +kernel
theorem d_CP_requireRange_14 : decode c_CP_requireRange 14 = .ok (.iconst 0, 1) := by decide +kernel
theorem d_CP_requireRange_15 : decode c_CP_requireRange 15 = .ok (.invokestatic 72, 3) := by decide +kernel
theorem d_CP_requireRange_18 : decode c_CP_requireRange 18 = .ok (.return_, 1) := by decide +kernel
theorem d_CP_requireSpan_0 : decode c_CP_requireSpan 0 = .ok (.iload_n 0, 1) := by decide +kernel
theorem d_CP_requireSpan_1 : decode c_CP_requireSpan 1 = .ok (.iload_n 2, 1) := by decide +kernel
theorem d_CP_requireSpan_2 : decode c_CP_requireSpan 2 = .ok (.iload_n 3, 1) := by decide +kernel
theorem d_CP_requireSpan_3 : decode c_CP_requireSpan 3 = .ok (.invokestatic 45, 3) := by decide +kernel
theorem d_CP_requireSpan_6 : decode c_CP_requireSpan 6 = .ok (.iload_n 1, 1) := by decide +kernel
theorem d_CP_requireSpan_7 : decode c_CP_requireSpan 7 = .ok (.iload_n 0, 1) := by decide +kernel
theorem d_CP_requireSpan_8 : decode c_CP_requireSpan 8 = .ok (.iload_n 3, 1) := by decide +kernel
theorem d_CP_requireSpan_9 : decode c_CP_requireSpan 9 = .ok (.invokestatic 45, 3) := by decide +kernel
theorem d_CP_requireSpan_12 : decode c_CP_requireSpan 12 = .ok (.return_, 1) := by decide +kernel
theorem d_CP_requireMeaning_0 : decode c_CP_requireMeaning 0 = .ok (.iload_n 0, 1) := by decide +kernel
theorem d_CP_requireMeaning_1 : decode c_CP_requireMeaning 1 = .ok (.ifCond .ne (13), 3) := by decide +kernel
theorem d_CP_requireMeaning_4 : decode c_CP_requireMeaning 4 = .ok (.new 183, 3) := by decide +kernel
theorem d_CP_requireMeaning_7 : decode c_CP_requireMeaning 7 = .ok (.dup, 1) := by decide +kernel
theorem d_CP_requireMeaning_8 : decode c_CP_requireMeaning 8 = .ok (.ldc 185, 2) := by decide +kernel
theorem d_CP_requireMeaning_10 : decode c_CP_requireMeaning 10 = .ok (.invokespecial 187, 3) := by decide +kernel
theorem d_CP_requireMeaning_13 : decode c_CP_requireMeaning 13 = .ok (.athrow, 1) := by decide +kernel
theorem d_CP_requireMeaning_14 : decode c_CP_requireMeaning 14 = .ok (.return_, 1) := by decide +kernel
