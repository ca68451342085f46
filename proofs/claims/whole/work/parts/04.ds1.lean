theorem d_C_init_0 : decode c_C_init 0 = .ok (.aload_n 0, 1) := by decide +kernel
theorem d_C_init_1 : decode c_C_init 1 = .ok (.invokespecial 3, 3) := by decide +kernel
theorem d_C_init_4 : decode c_C_init 4 = .ok (.aload_n 0, 1) := by decide +kernel
theorem d_C_init_5 : decode c_C_init 5 = .ok (.new 9, 3) := by decide +kernel
theorem d_C_init_8 : decode c_C_init 8 = .ok (.dup, 1) := by decide +kernel
theorem d_C_init_9 : decode c_C_init 9 = .ok (.invokespecial 11, 3) := by decide +kernel
theorem d_C_init_12 : decode c_C_init 12 = .ok (.putfield 12, 3) := by decide +kernel
theorem d_C_init_15 : decode c_C_init 15 = .ok (.aload_n 0, 1) := by decide +kernel
theorem d_C_init_16 : decode c_C_init 16 = .ok (.bipush (32), 2) := by decide +kernel
theorem d_C_init_18 : decode c_C_init 18 = .ok (.newarray .long, 2) := by decide +kernel
theorem d_C_init_20 : decode c_C_init 20 = .ok (.putfield 18, 3) := by decide +kernel
theorem d_C_init_23 : decode c_C_init 23 = .ok (.return_, 1) := by decide +kernel
theorem d_C_find_0 : decode c_C_find 0 = .ok (.aload_n 0, 1) := by decide +kernel
theorem d_C_find_1 : decode c_C_find 1 = .ok (.getfield 12, 3) := by decide +kernel
theorem d_C_find_4 : decode c_C_find 4 = .ok (.aload_n 1, 1) := by decide +kernel
theorem d_C_find_5 : decode c_C_find 5 = .ok (.aload_n 2, 1) := by decide +kernel
theorem d_C_find_6 : decode c_C_find 6 = .ok (.iload_n 3, 1) := by decide +kernel
theorem d_C_find_7 : decode c_C_find 7 = .ok (.invokevirtual 22, 3) := by decide +kernel
theorem d_C_find_10 : decode c_C_find 10 = .ok (.iconst 0, 1) := by decide +kernel
theorem d_C_find_11 : decode c_C_find 11 = .ok (.istore 4, 2) := by decide +kernel
theorem d_C_find_13 : decode c_C_find 13 = .ok (.iload 4, 2) := by decide +kernel
theorem d_C_find_15 : decode c_C_find 15 = .ok (.aload_n 0, 1) := by decide +kernel
theorem d_C_find_16 : decode c_C_find 16 = .ok (.getfield 18, 3) := by decide +kernel
theorem d_C_find_19 : decode c_C_find 19 = .ok (.arraylength, 1) := by decide +kernel
theorem d_C_find_20 : decode c_C_find 20 = .ok (.if_icmp .ge (17), 3) := by decide +kernel
theorem d_C_find_23 : decode c_C_find 23 = .ok (.aload_n 0, 1) := by decide +kernel
theorem d_C_find_24 : decode c_C_find 24 = .ok (.getfield 18, 3) := by decide +kernel
theorem d_C_find_27 : decode c_C_find 27 = .ok (.iload 4, 2) := by decide +kernel
theorem d_C_find_29 : decode c_C_find 29 = .ok (.lconst 0, 1) := by decide +kernel
theorem d_C_find_30 : decode c_C_find 30 = .ok (.lastore, 1) := by decide +kernel
theorem d_C_find_31 : decode c_C_find 31 = .ok (.iinc 4 (1), 3) := by decide +kernel
theorem d_C_find_34 : decode c_C_find 34 = .ok (.goto (-21), 3) := by decide +kernel
theorem d_C_find_37 : decode c_C_find 37 = .ok (.aload_n 0, 1) := by decide +kernel
theorem d_C_find_38 : decode c_C_find 38 = .ok (.iconst 0, 1) := by decide +kernel
theorem d_C_find_39 : decode c_C_find 39 = .ok (.putfield 26, 3) := by decide +kernel
theorem d_C_find_42 : decode c_C_find 42 = .ok (.aload_n 0, 1) := by decide +kernel
theorem d_C_find_43 : decode c_C_find 43 = .ok (.iconst 0, 1) := by decide +kernel
theorem d_C_find_44 : decode c_C_find 44 = .ok (.invokevirtual 30, 3) := by decide +kernel
theorem d_C_find_47 : decode c_C_find 47 = .ok (.aload_n 0, 1) := by decide +kernel
theorem d_C_find_48 : decode c_C_find 48 = .ok (.getfield 26, 3) := by decide +kernel
theorem d_C_find_51 : decode c_C_find 51 = .ok (.ifCond .eq (5), 3) := by decide +kernel
theorem d_C_find_54 : decode c_C_find 54 = .ok (.iconst 0, 1) := by decide +kernel
theorem d_C_find_55 : decode c_C_find 55 = .ok (.ireturn, 1) := by decide +kernel
theorem d_C_find_56 : decode c_C_find 56 = .ok (.sipush (2047), 3) := by decide +kernel
theorem d_C_find_59 : decode c_C_find 59 = .ok (.istore 4, 2) := by decide +kernel
theorem d_C_find_61 : decode c_C_find 61 = .ok (.iconst 0, 1) := by decide +kernel
theorem d_C_find_62 : decode c_C_find 62 = .ok (.istore 5, 2) := by decide +kernel
theorem d_C_find_64 : decode c_C_find 64 = .ok (.iload 5, 2) := by decide +kernel
theorem d_C_find_66 : decode c_C_find 66 = .ok (.bipush (11), 2) := by decide +kernel
theorem d_C_find_68 : decode c_C_find 68 = .ok (.if_icmp .ge (33), 3) := by decide +kernel
theorem d_C_find_71 : decode c_C_find 71 = .ok (.iload 4, 2) := by decide +kernel
theorem d_C_find_73 : decode c_C_find 73 = .ok (.iconst 1, 1) := by decide +kernel
theorem d_C_find_74 : decode c_C_find 74 = .ok (.iload 5, 2) := by decide +kernel
theorem d_C_find_76 : decode c_C_find 76 = .ok (.ishl, 1) := by decide +kernel
theorem d_C_find_77 : decode c_C_find 77 = .ok (.iconst (-1), 1) := by decide +kernel
theorem d_C_find_78 : decode c_C_find 78 = .ok (.ixor, 1) := by decide +kernel
theorem d_C_find_79 : decode c_C_find 79 = .ok (.iand, 1) := by decide +kernel
theorem d_C_find_80 : decode c_C_find 80 = .ok (.istore 6, 2) := by decide +kernel
theorem d_C_find_82 : decode c_C_find 82 = .ok (.aload_n 0, 1) := by decide +kernel
theorem d_C_find_83 : decode c_C_find 83 = .ok (.iload 6, 2) := by decide +kernel
theorem d_C_find_85 : decode c_C_find 85 = .ok (.invokevirtual 34, 3) := by decide +kernel
theorem d_C_find_88 : decode c_C_find 88 = .ok (.ifCond .ne (7), 3) := by decide +kernel
theorem d_C_find_91 : decode c_C_find 91 = .ok (.iload 6, 2) := by decide +kernel
theorem d_C_find_93 : decode c_C_find 93 = .ok (.istore 4, 2) := by decide +kernel
theorem d_C_find_95 : decode c_C_find 95 = .ok (.iinc 5 (1), 3) := by decide +kernel
theorem d_C_find_98 : decode c_C_find 98 = .ok (.goto (-34), 3) := by decide +kernel
theorem d_C_find_101 : decode c_C_find 101 = .ok (.iload 4, 2) := by decide +kernel
theorem d_C_find_103 : decode c_C_find 103 = .ok (.ireturn, 1) := by decide +kernel
theorem d_C_walk_0 : decode c_C_walk 0 = .ok (.iload_n 1, 1) := by decide +kernel
theorem d_C_walk_1 : decode c_C_walk 1 = .ok (.aload_n 0, 1) := by decide +kernel
theorem d_C_walk_2 : decode c_C_walk 2 = .ok (.getfield 12, 3) := by decide +kernel
theorem d_C_walk_5 : decode c_C_walk 5 = .ok (.getfield 38, 3) := by decide +kernel
theorem d_C_walk_8 : decode c_C_walk 8 = .ok (.if_icmp .lt (50), 3) := by decide +kernel
theorem d_C_walk_11 : decode c_C_walk 11 = .ok (.aload_n 0, 1) := by decide +kernel
theorem d_C_walk_12 : decode c_C_walk 12 = .ok (.getfield 12, 3) := by decide +kernel
theorem d_C_walk_15 : decode c_C_walk 15 = .ok (.invokevirtual 42, 3) := by decide +kernel
theorem d_C_walk_18 : decode c_C_walk 18 = .ok (.istore_n 2, 1) := by decide +kernel
theorem d_C_walk_19 : decode c_C_walk 19 = .ok (.aload_n 0, 1) := by decide +kernel
theorem d_C_walk_20 : decode c_C_walk 20 = .ok (.getfield 18, 3) := by decide +kernel
theorem d_C_walk_23 : decode c_C_walk 23 = .ok (.iload_n 2, 1) := by decide +kernel
theorem d_C_walk_24 : decode c_C_walk 24 = .ok (.bipush (64), 2) := by decide +kernel
theorem d_C_walk_26 : decode c_C_walk 26 = .ok (.idiv, 1) := by decide +kernel
theorem d_C_walk_27 : decode c_C_walk 27 = .ok (.dup2, 1) := by decide +kernel
theorem d_C_walk_28 : decode c_C_walk 28 = .ok (.laload, 1) := by decide +kernel
theorem d_C_walk_29 : decode c_C_walk 29 = .ok (.lconst 1, 1) := by decide +kernel
theorem d_C_walk_30 : decode c_C_walk 30 = .ok (.iload_n 2, 1) := by decide +kernel
theorem d_C_walk_31 : decode c_C_walk 31 = .ok (.bipush (64), 2) := by decide +kernel
theorem d_C_walk_33 : decode c_C_walk 33 = .ok (.irem, 1) := by decide +kernel
theorem d_C_walk_34 : decode c_C_walk 34 = .ok (.lshl, 1) := by decide +kernel
theorem d_C_walk_35 : decode c_C_walk 35 = .ok (.lor, 1) := by decide +kernel
theorem d_C_walk_36 : decode c_C_walk 36 = .ok (.lastore, 1) := by decide +kernel
theorem d_C_walk_37 : decode c_C_walk 37 = .ok (.aload_n 0, 1) := by decide +kernel
theorem d_C_walk_38 : decode c_C_walk 38 = .ok (.aload_n 0, 1) := by decide +kernel
theorem d_C_walk_39 : decode c_C_walk 39 = .ok (.getfield 26, 3) := by decide +kernel
theorem d_C_walk_42 : decode c_C_walk 42 = .ok (.ifCond .ne (7), 3) := by decide +kernel
theorem d_C_walk_45 : decode c_C_walk 45 = .ok (.iload_n 2, 1) := by decide +kernel
theorem d_C_walk_46 : decode c_C_walk 46 = .ok (.ifCond .ne (7), 3) := by decide +kernel
theorem d_C_walk_49 : decode c_C_walk 49 = .ok (.iconst 1, 1) := by decide +kernel
theorem d_C_walk_50 : decode c_C_walk 50 = .ok (.goto (4), 3) := by decide +kernel
theorem d_C_walk_53 : decode c_C_walk 53 = .ok (.iconst 0, 1) := by decide +kernel
theorem d_C_walk_54 : decode c_C_walk 54 = .ok (.putfield 26, 3) := by decide +kernel
theorem d_C_walk_57 : decode c_C_walk 57 = .ok (.return_, 1) := by decide +kernel
theorem d_C_walk_58 : decode c_C_walk 58 = .ok (.aload_n 0, 1) := by decide +kernel
theorem d_C_walk_59 : decode c_C_walk 59 = .ok (.getfield 12, 3) := by decide +kernel
theorem d_C_walk_62 : decode c_C_walk 62 = .ok (.iload_n 1, 1) := by decide +kernel
theorem d_C_walk_63 : decode c_C_walk 63 = .ok (.invokevirtual 46, 3) := by decide +kernel
theorem d_C_walk_66 : decode c_C_walk 66 = .ok (.iconst 0, 1) := by decide +kernel
theorem d_C_walk_67 : decode c_C_walk 67 = .ok (.istore_n 2, 1) := by decide +kernel
theorem d_C_walk_68 : decode c_C_walk 68 = .ok (.iload_n 2, 1) := by decide +kernel
theorem d_C_walk_69 : decode c_C_walk 69 = .ok (.aload_n 0, 1) := by decide +kernel
theorem d_C_walk_70 : decode c_C_walk 70 = .ok (.getfield 12, 3) := by decide +kernel
theorem d_C_walk_73 : decode c_C_walk 73 = .ok (.getfield 49, 3) := by decide +kernel
theorem d_C_walk_76 : decode c_C_walk 76 = .ok (.iload_n 1, 1) := by decide +kernel
theorem d_C_walk_77 : decode c_C_walk 77 = .ok (.iaload, 1) := by decide +kernel
theorem d_C_walk_78 : decode c_C_walk 78 = .ok (.if_icmp .gt (35), 3) := by decide +kernel
theorem d_C_walk_81 : decode c_C_walk 81 = .ok (.aload_n 0, 1) := by decide +kernel
theorem d_C_walk_82 : decode c_C_walk 82 = .ok (.getfield 26, 3) := by decide +kernel
theorem d_C_walk_85 : decode c_C_walk 85 = .ok (.ifCond .ne (28), 3) := by decide +kernel
theorem d_C_walk_88 : decode c_C_walk 88 = .ok (.iload_n 2, 1) := by decide +kernel
theorem d_C_walk_89 : decode c_C_walk 89 = .ok (.ifCond .le (11), 3) := by decide +kernel
theorem d_C_walk_92 : decode c_C_walk 92 = .ok (.aload_n 0, 1) := by decide +kernel
theorem d_C_walk_93 : decode c_C_walk 93 = .ok (.getfield 12, 3) := by decide +kernel
theorem d_C_walk_96 : decode c_C_walk 96 = .ok (.iload_n 1, 1) := by decide +kernel
theorem d_C_walk_97 : decode c_C_walk 97 = .ok (.invokevirtual 53, 3) := by decide +kernel
theorem d_C_walk_100 : decode c_C_walk 100 = .ok (.aload_n 0, 1) := by decide +kernel
theorem d_C_walk_101 : decode c_C_walk 101 = .ok (.iload_n 1, 1) := by decide +kernel
theorem d_C_walk_102 : decode c_C_walk 102 = .ok (.iconst 1, 1) := by decide +kernel
theorem d_C_walk_103 : decode c_C_walk 103 = .ok (.iadd, 1) := by decide +kernel
theorem d_C_walk_104 : decode c_C_walk 104 = .ok (.invokevirtual 30, 3) := by decide +kernel
theorem d_C_walk_107 : decode c_C_walk 107 = .ok (.iinc 2 (1), 3) := by decide +kernel
theorem d_C_walk_110 : decode c_C_walk 110 = .ok (.goto (-42), 3) := by decide +kernel
theorem d_C_walk_113 : decode c_C_walk 113 = .ok (.return_, 1) := by decide +kernel
theorem d_C_someChargeHolds_0 : decode c_C_someChargeHolds 0 = .ok (.iconst 0, 1) := by decide +kernel
theorem d_C_someChargeHolds_1 : decode c_C_someChargeHolds 1 = .ok (.istore_n 2, 1) := by decide +kernel
theorem d_C_someChargeHolds_2 : decode c_C_someChargeHolds 2 = .ok (.iload_n 2, 1) := by decide +kernel
theorem d_C_someChargeHolds_3 : decode c_C_someChargeHolds 3 = .ok (.sipush (2048), 3) := by decide +kernel
theorem d_C_someChargeHolds_6 : decode c_C_someChargeHolds 6 = .ok (.if_icmp .ge (38), 3) := by decide +kernel
theorem d_C_someChargeHolds_9 : decode c_C_someChargeHolds 9 = .ok (.iload_n 2, 1) := by decide +kernel
theorem d_C_someChargeHolds_10 : decode c_C_someChargeHolds 10 = .ok (.iload_n 1, 1) := by decide +kernel
theorem d_C_someChargeHolds_11 : decode c_C_someChargeHolds 11 = .ok (.iand, 1) := by decide +kernel
theorem d_C_someChargeHolds_12 : decode c_C_someChargeHolds 12 = .ok (.ifCond .ne (26), 3) := by decide +kernel
theorem d_C_someChargeHolds_15 : decode c_C_someChargeHolds 15 = .ok (.aload_n 0, 1) := by decide +kernel
theorem d_C_someChargeHolds_16 : decode c_C_someChargeHolds 16 = .ok (.getfield 18, 3) := by decide +kernel
theorem d_C_someChargeHolds_19 : decode c_C_someChargeHolds 19 = .ok (.iload_n 2, 1) := by decide +kernel
theorem d_C_someChargeHolds_20 : decode c_C_someChargeHolds 20 = .ok (.bipush (64), 2) := by decide +kernel
theorem d_C_someChargeHolds_22 : decode c_C_someChargeHolds 22 = .ok (.idiv, 1) := by decide +kernel
theorem d_C_someChargeHolds_23 : decode c_C_someChargeHolds 23 = .ok (.laload, 1) := by decide +kernel
theorem d_C_someChargeHolds_24 : decode c_C_someChargeHolds 24 = .ok (.iload_n 2, 1) := by decide +kernel
theorem d_C_someChargeHolds_25 : decode c_C_someChargeHolds 25 = .ok (.bipush (64), 2) := by decide +kernel
theorem d_C_someChargeHolds_27 : decode c_C_someChargeHolds 27 = .ok (.irem, 1) := by decide +kernel
theorem d_C_someChargeHolds_28 : decode c_C_someChargeHolds 28 = .ok (.lushr, 1) := by decide +kernel
theorem d_C_someChargeHolds_29 : decode c_C_someChargeHolds 29 = .ok (.lconst 1, 1) := by decide +kernel
theorem d_C_someChargeHolds_30 : decode c_C_someChargeHolds 30 = .ok (.land, 1) := by decide +kernel
theorem d_C_someChargeHolds_31 : decode c_C_someChargeHolds 31 = .ok (.lconst 0, 1) := by decide +kernel
theorem d_C_someChargeHolds_32 : decode c_C_someChargeHolds 32 = .ok (.lcmp, 1) := by decide +kernel
theorem d_C_someChargeHolds_33 : decode c_C_someChargeHolds 33 = .ok (.ifCond .eq (5), 3) := by decide +kernel
theorem d_C_someChargeHolds_36 : decode c_C_someChargeHolds 36 = .ok (.iconst 1, 1) := by decide +kernel
theorem d_C_someChargeHolds_37 : decode c_C_someChargeHolds 37 = .ok (.ireturn, 1) := by decide +kernel
theorem d_C_someChargeHolds_38 : decode c_C_someChargeHolds 38 = .ok (.iinc 2 (1), 3) := by decide +kernel
theorem d_C_someChargeHolds_41 : decode c_C_someChargeHolds 41 = .ok (.goto (-39), 3) := by decide +kernel
theorem d_C_someChargeHolds_44 : decode c_C_someChargeHolds 44 = .ok (.iconst 0, 1) := by decide +kernel
theorem d_C_someChargeHolds_45 : decode c_C_someChargeHolds 45 = .ok (.ireturn, 1) := by decide +kernel
theorem d_G_init_0 : decode c_G_init 0 = .ok (.aload_n 0, 1) := by decide +kernel
theorem d_G_init_1 : decode c_G_init 1 = .ok (.invokespecial 3, 3) := by decide +kernel
theorem d_G_init_4 : decode c_G_init 4 = .ok (.aload_n 0, 1) := by decide +kernel
theorem d_G_init_5 : decode c_G_init 5 = .ok (.iconst 5, 1) := by decide +kernel
theorem d_G_init_6 : decode c_G_init 6 = .ok (.newarray .int, 2) := by decide +kernel
theorem d_G_init_8 : decode c_G_init 8 = .ok (.putfield 9, 3) := by decide +kernel
theorem d_G_init_11 : decode c_G_init 11 = .ok (.aload_n 0, 1) := by decide +kernel
theorem d_G_init_12 : decode c_G_init 12 = .ok (.iconst 5, 1) := by decide +kernel
theorem d_G_init_13 : decode c_G_init 13 = .ok (.newarray .int, 2) := by decide +kernel
theorem d_G_init_15 : decode c_G_init 15 = .ok (.putfield 15, 3) := by decide +kernel
theorem d_G_init_18 : decode c_G_init 18 = .ok (.aload_n 0, 1) := by decide +kernel
theorem d_G_init_19 : decode c_G_init 19 = .ok (.iconst 5, 1) := by decide +kernel
theorem d_G_init_20 : decode c_G_init 20 = .ok (.newarray .int, 2) := by decide +kernel
theorem d_G_init_22 : decode c_G_init 22 = .ok (.putfield 18, 3) := by decide +kernel
theorem d_G_init_25 : decode c_G_init 25 = .ok (.aload_n 0, 1) := by decide +kernel
theorem d_G_init_26 : decode c_G_init 26 = .ok (.iconst 5, 1) := by decide +kernel
theorem d_G_init_27 : decode c_G_init 27 = .ok (.newarray .int, 2) := by decide +kernel
theorem d_G_init_29 : decode c_G_init 29 = .ok (.putfield 21, 3) := by decide +kernel
theorem d_G_init_32 : decode c_G_init 32 = .ok (.aload_n 0, 1) := by decide +kernel
theorem d_G_init_33 : decode c_G_init 33 = .ok (.bipush (20), 2) := by decide +kernel
theorem d_G_init_35 : decode c_G_init 35 = .ok (.newarray .int, 2) := by decide +kernel
theorem d_G_init_37 : decode c_G_init 37 = .ok (.putfield 24, 3) := by decide +kernel
theorem d_G_init_40 : decode c_G_init 40 = .ok (.aload_n 0, 1) := by decide +kernel
theorem d_G_init_41 : decode c_G_init 41 = .ok (.bipush (20), 2) := by decide +kernel
theorem d_G_init_43 : decode c_G_init 43 = .ok (.newarray .int, 2) := by decide +kernel
theorem d_G_init_45 : decode c_G_init 45 = .ok (.putfield 27, 3) := by decide +kernel
theorem d_G_init_48 : decode c_G_init 48 = .ok (.return_, 1) := by decide +kernel
theorem d_G_append_0 : decode c_G_append 0 = .ok (.aload_n 0, 1) := by decide +kernel
theorem d_G_append_1 : decode c_G_append 1 = .ok (.getfield 30, 3) := by decide +kernel
theorem d_G_append_4 : decode c_G_append 4 = .ok (.istore 4, 2) := by decide +kernel
theorem d_G_append_6 : decode c_G_append 6 = .ok (.aload_n 0, 1) := by decide +kernel
theorem d_G_append_7 : decode c_G_append 7 = .ok (.getfield 9, 3) := by decide +kernel
theorem d_G_append_10 : decode c_G_append 10 = .ok (.iload 4, 2) := by decide +kernel
theorem d_G_append_12 : decode c_G_append 12 = .ok (.iload_n 1, 1) := by decide +kernel
theorem d_G_append_13 : decode c_G_append 13 = .ok (.iastore, 1) := by decide +kernel
theorem d_G_append_14 : decode c_G_append 14 = .ok (.aload_n 0, 1) := by decide +kernel
theorem d_G_append_15 : decode c_G_append 15 = .ok (.getfield 15, 3) := by decide +kernel
theorem d_G_append_18 : decode c_G_append 18 = .ok (.iload 4, 2) := by decide +kernel
theorem d_G_append_20 : decode c_G_append 20 = .ok (.iload_n 2, 1) := by decide +kernel
theorem d_G_append_21 : decode c_G_append 21 = .ok (.iastore, 1) := by decide +kernel
theorem d_G_append_22 : decode c_G_append 22 = .ok (.aload_n 0, 1) := by decide +kernel
theorem d_G_append_23 : decode c_G_append 23 = .ok (.getfield 18, 3) := by decide +kernel
theorem d_G_append_26 : decode c_G_append 26 = .ok (.iload 4, 2) := by decide +kernel
theorem d_G_append_28 : decode c_G_append 28 = .ok (.iload_n 3, 1) := by decide +kernel
theorem d_G_append_29 : decode c_G_append 29 = .ok (.iastore, 1) := by decide +kernel
theorem d_G_append_30 : decode c_G_append 30 = .ok (.aload_n 0, 1) := by decide +kernel
theorem d_G_append_31 : decode c_G_append 31 = .ok (.getfield 21, 3) := by decide +kernel
theorem d_G_append_34 : decode c_G_append 34 = .ok (.iload 4, 2) := by decide +kernel
theorem d_G_append_36 : decode c_G_append 36 = .ok (.bipush (6), 2) := by decide +kernel
theorem d_G_append_38 : decode c_G_append 38 = .ok (.iastore, 1) := by decide +kernel
theorem d_G_append_39 : decode c_G_append 39 = .ok (.aload_n 0, 1) := by decide +kernel
theorem d_G_append_40 : decode c_G_append 40 = .ok (.dup, 1) := by decide +kernel
theorem d_G_append_41 : decode c_G_append 41 = .ok (.getfield 30, 3) := by decide +kernel
theorem d_G_append_44 : decode c_G_append 44 = .ok (.iconst 1, 1) := by decide +kernel
theorem d_G_append_45 : decode c_G_append 45 = .ok (.iadd, 1) := by decide +kernel
theorem d_G_append_46 : decode c_G_append 46 = .ok (.putfield 30, 3) := by decide +kernel
theorem d_G_append_49 : decode c_G_append 49 = .ok (.iload 4, 2) := by decide +kernel
theorem d_G_append_51 : decode c_G_append 51 = .ok (.ireturn, 1) := by decide +kernel
theorem d_G_room_0 : decode c_G_room 0 = .ok (.aload_n 0, 1) := by decide +kernel
theorem d_G_room_1 : decode c_G_room 1 = .ok (.getfield 18, 3) := by decide +kernel
theorem d_G_room_4 : decode c_G_room 4 = .ok (.iload_n 1, 1) := by decide +kernel
theorem d_G_room_5 : decode c_G_room 5 = .ok (.iaload, 1) := by decide +kernel
theorem d_G_room_6 : decode c_G_room 6 = .ok (.aload_n 0, 1) := by decide +kernel
theorem d_G_room_7 : decode c_G_room 7 = .ok (.getfield 21, 3) := by decide +kernel
theorem d_G_room_10 : decode c_G_room 10 = .ok (.iload_n 1, 1) := by decide +kernel
theorem d_G_room_11 : decode c_G_room 11 = .ok (.iaload, 1) := by decide +kernel
theorem d_G_room_12 : decode c_G_room 12 = .ok (.invokestatic 34, 3) := by decide +kernel
theorem d_G_room_15 : decode c_G_room 15 = .ok (.ireturn, 1) := by decide +kernel
theorem d_H_init_0 : decode c_H_init 0 = .ok (.aload_n 0, 1) := by decide +kernel
theorem d_H_init_1 : decode c_H_init 1 = .ok (.invokespecial 3, 3) := by decide +kernel
theorem d_H_init_4 : decode c_H_init 4 = .ok (.aload_n 0, 1) := by decide +kernel
theorem d_H_init_5 : decode c_H_init 5 = .ok (.iconst 4, 1) := by decide +kernel
theorem d_H_init_6 : decode c_H_init 6 = .ok (.newarray .int, 2) := by decide +kernel
theorem d_H_init_8 : decode c_H_init 8 = .ok (.putfield 9, 3) := by decide +kernel
theorem d_H_init_11 : decode c_H_init 11 = .ok (.aload_n 0, 1) := by decide +kernel
theorem d_H_init_12 : decode c_H_init 12 = .ok (.iconst 4, 1) := by decide +kernel
theorem d_H_init_13 : decode c_H_init 13 = .ok (.newarray .int, 2) := by decide +kernel
theorem d_H_init_15 : decode c_H_init 15 = .ok (.putfield 15, 3) := by decide +kernel
theorem d_H_init_18 : decode c_H_init 18 = .ok (.aload_n 0, 1) := by decide +kernel
theorem d_H_init_19 : decode c_H_init 19 = .ok (.bipush (16), 2) := by decide +kernel
theorem d_H_init_21 : decode c_H_init 21 = .ok (.newarray .int, 2) := by decide +kernel
theorem d_H_init_23 : decode c_H_init 23 = .ok (.putfield 18, 3) := by decide +kernel
theorem d_H_init_26 : decode c_H_init 26 = .ok (.aload_n 0, 1) := by decide +kernel
theorem d_H_init_27 : decode c_H_init 27 = .ok (.bipush (16), 2) := by decide +kernel
theorem d_H_init_29 : decode c_H_init 29 = .ok (.newarray .int, 2) := by decide +kernel
theorem d_H_init_31 : decode c_H_init 31 = .ok (.putfield 21, 3) := by decide +kernel
theorem d_H_init_34 : decode c_H_init 34 = .ok (.aload_n 0, 1) := by decide +kernel
theorem d_H_init_35 : decode c_H_init 35 = .ok (.iconst 4, 1) := by decide +kernel
theorem d_H_init_36 : decode c_H_init 36 = .ok (.newarray .int, 2) := by decide +kernel
theorem d_H_init_38 : decode c_H_init 38 = .ok (.putfield 24, 3) := by decide +kernel
theorem d_H_init_41 : decode c_H_init 41 = .ok (.aload_n 0, 1) := by decide +kernel
theorem d_H_init_42 : decode c_H_init 42 = .ok (.iconst 4, 1) := by decide +kernel
theorem d_H_init_43 : decode c_H_init 43 = .ok (.newarray .int, 2) := by decide +kernel
theorem d_H_init_45 : decode c_H_init 45 = .ok (.putfield 27, 3) := by decide +kernel
theorem d_H_init_48 : decode c_H_init 48 = .ok (.aload_n 0, 1) := by decide +kernel
theorem d_H_init_49 : decode c_H_init 49 = .ok (.bipush (20), 2) := by decide +kernel
theorem d_H_init_51 : decode c_H_init 51 = .ok (.newarray .int, 2) := by decide +kernel
theorem d_H_init_53 : decode c_H_init 53 = .ok (.putfield 30, 3) := by decide +kernel
theorem d_H_init_56 : decode c_H_init 56 = .ok (.return_, 1) := by decide +kernel
theorem d_H_append_0 : decode c_H_append 0 = .ok (.aload_n 0, 1) := by decide +kernel
theorem d_H_append_1 : decode c_H_append 1 = .ok (.getfield 33, 3) := by decide +kernel
theorem d_H_append_4 : decode c_H_append 4 = .ok (.istore_n 3, 1) := by decide +kernel
theorem d_H_append_5 : decode c_H_append 5 = .ok (.aload_n 0, 1) := by decide +kernel
theorem d_H_append_6 : decode c_H_append 6 = .ok (.getfield 9, 3) := by decide +kernel
theorem d_H_append_9 : decode c_H_append 9 = .ok (.iload_n 3, 1) := by decide +kernel
theorem d_H_append_10 : decode c_H_append 10 = .ok (.iload_n 1, 1) := by decide +kernel
theorem d_H_append_11 : decode c_H_append 11 = .ok (.iastore, 1) := by decide +kernel
theorem d_H_append_12 : decode c_H_append 12 = .ok (.aload_n 0, 1) := by decide +kernel
theorem d_H_append_13 : decode c_H_append 13 = .ok (.getfield 15, 3) := by decide +kernel
theorem d_H_append_16 : decode c_H_append 16 = .ok (.iload_n 3, 1) := by decide +kernel
theorem d_H_append_17 : decode c_H_append 17 = .ok (.iload_n 2, 1) := by decide +kernel
theorem d_H_append_18 : decode c_H_append 18 = .ok (.iastore, 1) := by decide +kernel
theorem d_H_append_19 : decode c_H_append 19 = .ok (.iconst 0, 1) := by decide +kernel
theorem d_H_append_20 : decode c_H_append 20 = .ok (.istore 4, 2) := by decide +kernel
theorem d_H_append_22 : decode c_H_append 22 = .ok (.iload 4, 2) := by decide +kernel
theorem d_H_append_24 : decode c_H_append 24 = .ok (.iconst 4, 1) := by decide +kernel
theorem d_H_append_25 : decode c_H_append 25 = .ok (.if_icmp .ge (23), 3) := by decide +kernel
theorem d_H_append_28 : decode c_H_append 28 = .ok (.aload_n 0, 1) := by decide +kernel
theorem d_H_append_29 : decode c_H_append 29 = .ok (.getfield 21, 3) := by decide +kernel
theorem d_H_append_32 : decode c_H_append 32 = .ok (.iload_n 3, 1) := by decide +kernel
theorem d_H_append_33 : decode c_H_append 33 = .ok (.iconst 4, 1) := by decide +kernel
theorem d_H_append_34 : decode c_H_append 34 = .ok (.imul, 1) := by decide +kernel
theorem d_H_append_35 : decode c_H_append 35 = .ok (.iload 4, 2) := by decide +kernel
theorem d_H_append_37 : decode c_H_append 37 = .ok (.iadd, 1) := by decide +kernel
theorem d_H_append_38 : decode c_H_append 38 = .ok (.sipush (10000), 3) := by decide +kernel
theorem d_H_append_41 : decode c_H_append 41 = .ok (.iastore, 1) := by decide +kernel
theorem d_H_append_42 : decode c_H_append 42 = .ok (.iinc 4 (1), 3) := by decide +kernel
theorem d_H_append_45 : decode c_H_append 45 = .ok (.goto (-23), 3) := by decide +kernel
theorem d_H_append_48 : decode c_H_append 48 = .ok (.aload_n 0, 1) := by decide +kernel
theorem d_H_append_49 : decode c_H_append 49 = .ok (.getfield 24, 3) := by decide +kernel
theorem d_H_append_52 : decode c_H_append 52 = .ok (.iload_n 3, 1) := by decide +kernel
theorem d_H_append_53 : decode c_H_append 53 = .ok (.bipush (30), 2) := by decide +kernel
theorem d_H_append_55 : decode c_H_append 55 = .ok (.iastore, 1) := by decide +kernel
theorem d_H_append_56 : decode c_H_append 56 = .ok (.aload_n 0, 1) := by decide +kernel
theorem d_H_append_57 : decode c_H_append 57 = .ok (.getfield 27, 3) := by decide +kernel
theorem d_H_append_60 : decode c_H_append 60 = .ok (.iload_n 3, 1) := by decide +kernel
theorem d_H_append_61 : decode c_H_append 61 = .ok (.iconst (-1), 1) := by decide +kernel
theorem d_H_append_62 : decode c_H_append 62 = .ok (.iastore, 1) := by decide +kernel
theorem d_H_append_63 : decode c_H_append 63 = .ok (.aload_n 0, 1) := by decide +kernel
theorem d_H_append_64 : decode c_H_append 64 = .ok (.dup, 1) := by decide +kernel
theorem d_H_append_65 : decode c_H_append 65 = .ok (.getfield 33, 3) := by decide +kernel
theorem d_H_append_68 : decode c_H_append 68 = .ok (.iconst 1, 1) := by decide +kernel
theorem d_H_append_69 : decode c_H_append 69 = .ok (.iadd, 1) := by decide +kernel
theorem d_H_append_70 : decode c_H_append 70 = .ok (.putfield 33, 3) := by decide +kernel
theorem d_H_append_73 : decode c_H_append 73 = .ok (.iload_n 3, 1) := by decide +kernel
theorem d_H_append_74 : decode c_H_append 74 = .ok (.ireturn, 1) := by decide +kernel
theorem d_H_hasPlan_0 : decode c_H_hasPlan 0 = .ok (.aload_n 0, 1) := by decide +kernel
theorem d_H_hasPlan_1 : decode c_H_hasPlan 1 = .ok (.getfield 27, 3) := by decide +kernel
theorem d_H_hasPlan_4 : decode c_H_hasPlan 4 = .ok (.iload_n 1, 1) := by decide +kernel
theorem d_H_hasPlan_5 : decode c_H_hasPlan 5 = .ok (.iaload, 1) := by decide +kernel
theorem d_H_hasPlan_6 : decode c_H_hasPlan 6 = .ok (.iconst (-1), 1) := by decide +kernel
theorem d_H_hasPlan_7 : decode c_H_hasPlan 7 = .ok (.if_icmp .eq (7), 3) := by decide +kernel
theorem d_H_hasPlan_10 : decode c_H_hasPlan 10 = .ok (.iconst 1, 1) := by decide +kernel
theorem d_H_hasPlan_11 : decode c_H_hasPlan 11 = .ok (.goto (4), 3) := by decide +kernel
theorem d_H_hasPlan_14 : decode c_H_hasPlan 14 = .ok (.iconst 0, 1) := by decide +kernel
theorem d_H_hasPlan_15 : decode c_H_hasPlan 15 = .ok (.ireturn, 1) := by decide +kernel
theorem d_H_keepPlan_0 : decode c_H_keepPlan 0 = .ok (.aload_n 0, 1) := by decide +kernel
theorem d_H_keepPlan_1 : decode c_H_keepPlan 1 = .ok (.getfield 27, 3) := by decide +kernel
theorem d_H_keepPlan_4 : decode c_H_keepPlan 4 = .ok (.iload_n 1, 1) := by decide +kernel
theorem d_H_keepPlan_5 : decode c_H_keepPlan 5 = .ok (.iload_n 3, 1) := by decide +kernel
theorem d_H_keepPlan_6 : decode c_H_keepPlan 6 = .ok (.iastore, 1) := by decide +kernel
theorem d_H_keepPlan_7 : decode c_H_keepPlan 7 = .ok (.iconst 0, 1) := by decide +kernel
theorem d_H_keepPlan_8 : decode c_H_keepPlan 8 = .ok (.istore 4, 2) := by decide +kernel
theorem d_H_keepPlan_10 : decode c_H_keepPlan 10 = .ok (.iload 4, 2) := by decide +kernel
theorem d_H_keepPlan_12 : decode c_H_keepPlan 12 = .ok (.iconst 5, 1) := by decide +kernel
theorem d_H_keepPlan_13 : decode c_H_keepPlan 13 = .ok (.if_icmp .ge (24), 3) := by decide +kernel
theorem d_H_keepPlan_16 : decode c_H_keepPlan 16 = .ok (.aload_n 0, 1) := by decide +kernel
theorem d_H_keepPlan_17 : decode c_H_keepPlan 17 = .ok (.getfield 30, 3) := by decide +kernel
theorem d_H_keepPlan_20 : decode c_H_keepPlan 20 = .ok (.iload_n 1, 1) := by decide +kernel
theorem d_H_keepPlan_21 : decode c_H_keepPlan 21 = .ok (.iconst 5, 1) := by decide +kernel
theorem d_H_keepPlan_22 : decode c_H_keepPlan 22 = .ok (.imul, 1) := by decide +kernel
theorem d_H_keepPlan_23 : decode c_H_keepPlan 23 = .ok (.iload 4, 2) := by decide +kernel
theorem d_H_keepPlan_25 : decode c_H_keepPlan 25 = .ok (.iadd, 1) := by decide +kernel
theorem d_H_keepPlan_26 : decode c_H_keepPlan 26 = .ok (.aload_n 2, 1) := by decide +kernel
theorem d_H_keepPlan_27 : decode c_H_keepPlan 27 = .ok (.iload 4, 2) := by decide +kernel
theorem d_H_keepPlan_29 : decode c_H_keepPlan 29 = .ok (.iaload, 1) := by decide +kernel
theorem d_H_keepPlan_30 : decode c_H_keepPlan 30 = .ok (.iastore, 1) := by decide +kernel
theorem d_H_keepPlan_31 : decode c_H_keepPlan 31 = .ok (.iinc 4 (1), 3) := by decide +kernel
theorem d_H_keepPlan_34 : decode c_H_keepPlan 34 = .ok (.goto (-24), 3) := by decide +kernel
theorem d_H_keepPlan_37 : decode c_H_keepPlan 37 = .ok (.return_, 1) := by decide +kernel
theorem d_P_init_0 : decode c_P_init 0 = .ok (.aload_n 0, 1) := by decide +kernel
theorem d_P_init_1 : decode c_P_init 1 = .ok (.invokespecial 3, 3) := by decide +kernel
theorem d_P_init_4 : decode c_P_init 4 = .ok (.aload_n 0, 1) := by decide +kernel
theorem d_P_init_5 : decode c_P_init 5 = .ok (.new 9, 3) := by decide +kernel
theorem d_P_init_8 : decode c_P_init 8 = .ok (.dup, 1) := by decide +kernel
theorem d_P_init_9 : decode c_P_init 9 = .ok (.invokespecial 11, 3) := by decide +kernel
theorem d_P_init_12 : decode c_P_init 12 = .ok (.putfield 12, 3) := by decide +kernel
theorem d_P_init_15 : decode c_P_init 15 = .ok (.aload_n 0, 1) := by decide +kernel
theorem d_P_init_16 : decode c_P_init 16 = .ok (.iconst 5, 1) := by decide +kernel
theorem d_P_init_17 : decode c_P_init 17 = .ok (.newarray .int, 2) := by decide +kernel
theorem d_P_init_19 : decode c_P_init 19 = .ok (.putfield 18, 3) := by decide +kernel
theorem d_P_init_22 : decode c_P_init 22 = .ok (.aload_n 0, 1) := by decide +kernel
theorem d_P_init_23 : decode c_P_init 23 = .ok (.iconst 5, 1) := by decide +kernel
theorem d_P_init_24 : decode c_P_init 24 = .ok (.newarray .int, 2) := by decide +kernel
theorem d_P_init_26 : decode c_P_init 26 = .ok (.putfield 22, 3) := by decide +kernel
theorem d_P_init_29 : decode c_P_init 29 = .ok (.return_, 1) := by decide +kernel
theorem d_P_search_0 : decode c_P_search 0 = .ok (.aload_n 0, 1) := by decide +kernel
theorem d_P_search_1 : decode c_P_search 1 = .ok (.getfield 12, 3) := by decide +kernel
theorem d_P_search_4 : decode c_P_search 4 = .ok (.aload_n 1, 1) := by decide +kernel
theorem d_P_search_5 : decode c_P_search 5 = .ok (.aload_n 2, 1) := by decide +kernel
theorem d_P_search_6 : decode c_P_search 6 = .ok (.iload_n 3, 1) := by decide +kernel
theorem d_P_search_7 : decode c_P_search 7 = .ok (.invokevirtual 25, 3) := by decide +kernel
theorem d_P_search_10 : decode c_P_search 10 = .ok (.aload_n 0, 1) := by decide +kernel
theorem d_P_search_11 : decode c_P_search 11 = .ok (.iconst (-1), 1) := by decide +kernel
theorem d_P_search_12 : decode c_P_search 12 = .ok (.putfield 29, 3) := by decide +kernel
theorem d_P_search_15 : decode c_P_search 15 = .ok (.aload_n 0, 1) := by decide +kernel
theorem d_P_search_16 : decode c_P_search 16 = .ok (.iload 4, 2) := by decide +kernel
theorem d_P_search_18 : decode c_P_search 18 = .ok (.putfield 33, 3) := by decide +kernel
theorem d_P_search_21 : decode c_P_search 21 = .ok (.aload_n 0, 1) := by decide +kernel
theorem d_P_search_22 : decode c_P_search 22 = .ok (.iconst 0, 1) := by decide +kernel
theorem d_P_search_23 : decode c_P_search 23 = .ok (.putfield 36, 3) := by decide +kernel
theorem d_P_search_26 : decode c_P_search 26 = .ok (.aload_n 0, 1) := by decide +kernel
theorem d_P_search_27 : decode c_P_search 27 = .ok (.iconst 0, 1) := by decide +kernel
theorem d_P_search_28 : decode c_P_search 28 = .ok (.putfield 39, 3) := by decide +kernel
theorem d_P_search_31 : decode c_P_search 31 = .ok (.aload_n 0, 1) := by decide +kernel
theorem d_P_search_32 : decode c_P_search 32 = .ok (.iconst 1, 1) := by decide +kernel
theorem d_P_search_33 : decode c_P_search 33 = .ok (.putfield 43, 3) := by decide +kernel
theorem d_P_search_36 : decode c_P_search 36 = .ok (.aload_n 0, 1) := by decide +kernel
theorem d_P_search_37 : decode c_P_search 37 = .ok (.iconst 0, 1) := by decide +kernel
theorem d_P_search_38 : decode c_P_search 38 = .ok (.invokevirtual 46, 3) := by decide +kernel
theorem d_P_search_41 : decode c_P_search 41 = .ok (.return_, 1) := by decide +kernel
theorem d_P_tryNumbers_0 : decode c_P_tryNumbers 0 = .ok (.iload_n 1, 1) := by decide +kernel
theorem d_P_tryNumbers_1 : decode c_P_tryNumbers 1 = .ok (.aload_n 0, 1) := by decide +kernel
theorem d_P_tryNumbers_2 : decode c_P_tryNumbers 2 = .ok (.getfield 12, 3) := by decide +kernel
theorem d_P_tryNumbers_5 : decode c_P_tryNumbers 5 = .ok (.getfield 50, 3) := by decide +kernel
theorem d_P_tryNumbers_8 : decode c_P_tryNumbers 8 = .ok (.if_icmp .lt (8), 3) := by decide +kernel
theorem d_P_tryNumbers_11 : decode c_P_tryNumbers 11 = .ok (.aload_n 0, 1) := by decide +kernel
theorem d_P_tryNumbers_12 : decode c_P_tryNumbers 12 = .ok (.invokevirtual 53, 3) := by decide +kernel
theorem d_P_tryNumbers_15 : decode c_P_tryNumbers 15 = .ok (.return_, 1) := by decide +kernel
theorem d_P_tryNumbers_16 : decode c_P_tryNumbers 16 = .ok (.aload_n 0, 1) := by decide +kernel
theorem d_P_tryNumbers_17 : decode c_P_tryNumbers 17 = .ok (.getfield 12, 3) := by decide +kernel
theorem d_P_tryNumbers_20 : decode c_P_tryNumbers 20 = .ok (.iload_n 1, 1) := by decide +kernel
theorem d_P_tryNumbers_21 : decode c_P_tryNumbers 21 = .ok (.invokevirtual 56, 3) := by decide +kernel
theorem d_P_tryNumbers_24 : decode c_P_tryNumbers 24 = .ok (.iconst 0, 1) := by decide +kernel
theorem d_P_tryNumbers_25 : decode c_P_tryNumbers 25 = .ok (.istore_n 2, 1) := by decide +kernel
theorem d_P_tryNumbers_26 : decode c_P_tryNumbers 26 = .ok (.iload_n 2, 1) := by decide +kernel
theorem d_P_tryNumbers_27 : decode c_P_tryNumbers 27 = .ok (.aload_n 0, 1) := by decide +kernel
theorem d_P_tryNumbers_28 : decode c_P_tryNumbers 28 = .ok (.getfield 12, 3) := by decide +kernel
