theorem d_CP_init_0 : decode c_CP_init 0 = .ok (.aload_n 0, 1) := by decide +kernel
theorem d_CP_init_1 : decode c_CP_init 1 = .ok (.invokespecial 1, 3) := by decide +kernel
theorem d_CP_init_4 : decode c_CP_init 4 = .ok (.aload_n 0, 1) := by decide +kernel
theorem d_CP_init_5 : decode c_CP_init 5 = .ok (.new 7, 3) := by decide +kernel
theorem d_CP_init_8 : decode c_CP_init 8 = .ok (.dup, 1) := by decide +kernel
theorem d_CP_init_9 : decode c_CP_init 9 = .ok (.invokespecial 9, 3) := by decide +kernel
theorem d_CP_init_12 : decode c_CP_init 12 = .ok (.putfield 10, 3) := by decide +kernel
theorem d_CP_init_15 : decode c_CP_init 15 = .ok (.aload_n 0, 1) := by decide +kernel
theorem d_CP_init_16 : decode c_CP_init 16 = .ok (.new 16, 3) := by decide +kernel
theorem d_CP_init_19 : decode c_CP_init 19 = .ok (.dup, 1) := by decide +kernel
theorem d_CP_init_20 : decode c_CP_init 20 = .ok (.invokespecial 18, 3) := by decide +kernel
theorem d_CP_init_23 : decode c_CP_init 23 = .ok (.putfield 19, 3) := by decide +kernel
theorem d_CP_init_26 : decode c_CP_init 26 = .ok (.aload_n 0, 1) := by decide +kernel
theorem d_CP_init_27 : decode c_CP_init 27 = .ok (.new 23, 3) := by decide +kernel
theorem d_CP_init_30 : decode c_CP_init 30 = .ok (.dup, 1) := by decide +kernel
theorem d_CP_init_31 : decode c_CP_init 31 = .ok (.invokespecial 25, 3) := by decide +kernel
theorem d_CP_init_34 : decode c_CP_init 34 = .ok (.putfield 26, 3) := by decide +kernel
theorem d_CP_init_37 : decode c_CP_init 37 = .ok (.aload_n 0, 1) := by decide +kernel
theorem d_CP_init_38 : decode c_CP_init 38 = .ok (.new 30, 3) := by decide +kernel
theorem d_CP_init_41 : decode c_CP_init 41 = .ok (.dup, 1) := by decide +kernel
theorem d_CP_init_42 : decode c_CP_init 42 = .ok (.invokespecial 32, 3) := by decide +kernel
theorem d_CP_init_45 : decode c_CP_init 45 = .ok (.putfield 33, 3) := by decide +kernel
theorem d_CP_init_48 : decode c_CP_init 48 = .ok (.return_, 1) := by decide +kernel
theorem d_CP_good_0 : decode c_CP_good 0 = .ok (.aload_n 0, 1) := by decide +kernel
theorem d_CP_good_1 : decode c_CP_good 1 = .ok (.getfield 10, 3) := by decide +kernel
theorem d_CP_good_4 : decode c_CP_good 4 = .ok (.getfield 37, 3) := by decide +kernel
theorem d_CP_good_7 : decode c_CP_good 7 = .ok (.iconst 5, 1) := by decide +kernel
theorem d_CP_good_8 : decode c_CP_good 8 = .ok (.if_icmp .ge (7), 3) := by decide +kernel
theorem d_CP_good_11 : decode c_CP_good 11 = .ok (.iconst 1, 1) := by decide +kernel
theorem d_CP_good_12 : decode c_CP_good 12 = .ok (.goto (4), 3) := by decide +kernel
theorem d_CP_good_15 : decode c_CP_good 15 = .ok (.iconst 0, 1) := by decide +kernel
theorem d_CP_good_16 : decode c_CP_good 16 = .ok (.invokestatic 41, 3) := by decide +kernel
theorem d_CP_good_19 : decode c_CP_good 19 = .ok (.iload_n 1, 1) := by decide +kernel
theorem d_CP_good_20 : decode c_CP_good 20 = .ok (.iconst 1, 1) := by decide +kernel
theorem d_CP_good_21 : decode c_CP_good 21 = .ok (.sipush (1000), 3) := by decide +kernel
theorem d_CP_good_24 : decode c_CP_good 24 = .ok (.invokestatic 45, 3) := by decide +kernel
theorem d_CP_good_27 : decode c_CP_good 27 = .ok (.iload_n 2, 1) := by decide +kernel
theorem d_CP_good_28 : decode c_CP_good 28 = .ok (.iconst 0, 1) := by decide +kernel
theorem d_CP_good_29 : decode c_CP_good 29 = .ok (.ldc 49, 2) := by decide +kernel
theorem d_CP_good_31 : decode c_CP_good 31 = .ok (.invokestatic 45, 3) := by decide +kernel
theorem d_CP_good_34 : decode c_CP_good 34 = .ok (.iload_n 3, 1) := by decide +kernel
theorem d_CP_good_35 : decode c_CP_good 35 = .ok (.iconst 0, 1) := by decide +kernel
theorem d_CP_good_36 : decode c_CP_good 36 = .ok (.bipush (6), 2) := by decide +kernel
theorem d_CP_good_38 : decode c_CP_good 38 = .ok (.invokestatic 45, 3) := by decide +kernel
theorem d_CP_good_41 : decode c_CP_good 41 = .ok (.aload_n 0, 1) := by decide +kernel
theorem d_CP_good_42 : decode c_CP_good 42 = .ok (.getfield 10, 3) := by decide +kernel
theorem d_CP_good_45 : decode c_CP_good 45 = .ok (.iload_n 1, 1) := by decide +kernel
theorem d_CP_good_46 : decode c_CP_good 46 = .ok (.iload_n 2, 1) := by decide +kernel
theorem d_CP_good_47 : decode c_CP_good 47 = .ok (.iload_n 3, 1) := by decide +kernel
theorem d_CP_good_48 : decode c_CP_good 48 = .ok (.invokevirtual 50, 3) := by decide +kernel
theorem d_CP_good_51 : decode c_CP_good 51 = .ok (.ireturn, 1) := by decide +kernel
theorem d_CP_element_0 : decode c_CP_element 0 = .ok (.iload_n 1, 1) := by decide +kernel
theorem d_CP_element_1 : decode c_CP_element 1 = .ok (.aload_n 0, 1) := by decide +kernel
theorem d_CP_element_2 : decode c_CP_element 2 = .ok (.getfield 10, 3) := by decide +kernel
theorem d_CP_element_5 : decode c_CP_element 5 = .ok (.getfield 37, 3) := by decide +kernel
theorem d_CP_element_8 : decode c_CP_element 8 = .ok (.invokestatic 54, 3) := by decide +kernel
theorem d_CP_element_11 : decode c_CP_element 11 = .ok (.iload_n 2, 1) := by decide +kernel
theorem d_CP_element_12 : decode c_CP_element 12 = .ok (.iconst 4, 1) := by decide +kernel
theorem d_CP_element_13 : decode c_CP_element 13 = .ok (.invokestatic 54, 3) := by decide +kernel
theorem d_CP_element_16 : decode c_CP_element 16 = .ok (.iload_n 3, 1) := by decide +kernel
theorem d_CP_element_17 : decode c_CP_element 17 = .ok (.iload 4, 2) := by decide +kernel
theorem d_CP_element_19 : decode c_CP_element 19 = .ok (.iconst 0, 1) := by decide +kernel
theorem d_CP_element_20 : decode c_CP_element 20 = .ok (.sipush (10000), 3) := by decide +kernel
theorem d_CP_element_23 : decode c_CP_element 23 = .ok (.invokestatic 58, 3) := by decide +kernel
theorem d_CP_element_26 : decode c_CP_element 26 = .ok (.aload_n 0, 1) := by decide +kernel
theorem d_CP_element_27 : decode c_CP_element 27 = .ok (.getfield 10, 3) := by decide +kernel
theorem d_CP_element_30 : decode c_CP_element 30 = .ok (.getfield 62, 3) := by decide +kernel
theorem d_CP_element_33 : decode c_CP_element 33 = .ok (.iload_n 1, 1) := by decide +kernel
theorem d_CP_element_34 : decode c_CP_element 34 = .ok (.iconst 4, 1) := by decide +kernel
theorem d_CP_element_35 : decode c_CP_element 35 = .ok (.imul, 1) := by decide +kernel
theorem d_CP_element_36 : decode c_CP_element 36 = .ok (.iload_n 2, 1) := by decide +kernel
theorem d_CP_element_37 : decode c_CP_element 37 = .ok (.iadd, 1) := by decide +kernel
theorem d_CP_element_38 : decode c_CP_element 38 = .ok (.iload_n 3, 1) := by decide +kernel
theorem d_CP_element_39 : decode c_CP_element 39 = .ok (.iastore, 1) := by decide +kernel
theorem d_CP_element_40 : decode c_CP_element 40 = .ok (.aload_n 0, 1) := by decide +kernel
theorem d_CP_element_41 : decode c_CP_element 41 = .ok (.getfield 10, 3) := by decide +kernel
theorem d_CP_element_44 : decode c_CP_element 44 = .ok (.getfield 66, 3) := by decide +kernel
theorem d_CP_element_47 : decode c_CP_element 47 = .ok (.iload_n 1, 1) := by decide +kernel
theorem d_CP_element_48 : decode c_CP_element 48 = .ok (.iconst 4, 1) := by decide +kernel
theorem d_CP_element_49 : decode c_CP_element 49 = .ok (.imul, 1) := by decide +kernel
theorem d_CP_element_50 : decode c_CP_element 50 = .ok (.iload_n 2, 1) := by decide +kernel
theorem d_CP_element_51 : decode c_CP_element 51 = .ok (.iadd, 1) := by decide +kernel
theorem d_CP_element_52 : decode c_CP_element 52 = .ok (.iload 4, 2) := by decide +kernel
theorem d_CP_element_54 : decode c_CP_element 54 = .ok (.iastore, 1) := by decide +kernel
theorem d_CP_element_55 : decode c_CP_element 55 = .ok (.return_, 1) := by decide +kernel
theorem d_CP_limit_0 : decode c_CP_limit 0 = .ok (.iload_n 1, 1) := by decide +kernel
theorem d_CP_limit_1 : decode c_CP_limit 1 = .ok (.aload_n 0, 1) := by decide +kernel
theorem d_CP_limit_2 : decode c_CP_limit 2 = .ok (.getfield 10, 3) := by decide +kernel
theorem d_CP_limit_5 : decode c_CP_limit 5 = .ok (.getfield 37, 3) := by decide +kernel
theorem d_CP_limit_8 : decode c_CP_limit 8 = .ok (.invokestatic 54, 3) := by decide +kernel
theorem d_CP_limit_11 : decode c_CP_limit 11 = .ok (.iload_n 2, 1) := by decide +kernel
theorem d_CP_limit_12 : decode c_CP_limit 12 = .ok (.iconst 0, 1) := by decide +kernel
theorem d_CP_limit_13 : decode c_CP_limit 13 = .ok (.bipush (6), 2) := by decide +kernel
theorem d_CP_limit_15 : decode c_CP_limit 15 = .ok (.invokestatic 45, 3) := by decide +kernel
theorem d_CP_limit_18 : decode c_CP_limit 18 = .ok (.aload_n 0, 1) := by decide +kernel
theorem d_CP_limit_19 : decode c_CP_limit 19 = .ok (.getfield 10, 3) := by decide +kernel
theorem d_CP_limit_22 : decode c_CP_limit 22 = .ok (.getfield 69, 3) := by decide +kernel
theorem d_CP_limit_25 : decode c_CP_limit 25 = .ok (.iload_n 1, 1) := by decide +kernel
theorem d_CP_limit_26 : decode c_CP_limit 26 = .ok (.iload_n 2, 1) := by decide +kernel
theorem d_CP_limit_27 : decode c_CP_limit 27 = .ok (.iastore, 1) := by decide +kernel
theorem d_CP_limit_28 : decode c_CP_limit 28 = .ok (.return_, 1) := by decide +kernel
theorem d_CP_arrive_0 : decode c_CP_arrive 0 = .ok (.iload_n 1, 1) := by decide +kernel
theorem d_CP_arrive_1 : decode c_CP_arrive 1 = .ok (.aload_n 0, 1) := by decide +kernel
theorem d_CP_arrive_2 : decode c_CP_arrive 2 = .ok (.getfield 10, 3) := by decide +kernel
theorem d_CP_arrive_5 : decode c_CP_arrive 5 = .ok (.getfield 37, 3) := by decide +kernel
theorem d_CP_arrive_8 : decode c_CP_arrive 8 = .ok (.invokestatic 54, 3) := by decide +kernel
theorem d_CP_arrive_11 : decode c_CP_arrive 11 = .ok (.iload_n 2, 1) := by decide +kernel
theorem d_CP_arrive_12 : decode c_CP_arrive 12 = .ok (.ifCond .lt (7), 3) := by decide +kernel
theorem d_CP_arrive_15 : decode c_CP_arrive 15 = .ok (.iconst 1, 1) := by decide +kernel
theorem d_CP_arrive_16 : decode c_CP_arrive 16 = .ok (.goto (4), 3) := by decide +kernel
theorem d_CP_arrive_19 : decode c_CP_arrive 19 = .ok (.iconst 0, 1) := by decide +kernel
theorem d_CP_arrive_20 : decode c_CP_arrive 20 = .ok (.invokestatic 72, 3) := by decide +kernel
theorem d_CP_arrive_23 : decode c_CP_arrive 23 = .ok (.iload_n 2, 1) := by decide +kernel
theorem d_CP_arrive_24 : decode c_CP_arrive 24 = .ok (.bipush (6), 2) := by decide +kernel
theorem d_CP_arrive_26 : decode c_CP_arrive 26 = .ok (.aload_n 0, 1) := by decide +kernel
theorem d_CP_arrive_27 : decode c_CP_arrive 27 = .ok (.getfield 10, 3) := by decide +kernel
theorem d_CP_arrive_30 : decode c_CP_arrive 30 = .ok (.getfield 75, 3) := by decide +kernel
theorem d_CP_arrive_33 : decode c_CP_arrive 33 = .ok (.iload_n 1, 1) := by decide +kernel
theorem d_CP_arrive_34 : decode c_CP_arrive 34 = .ok (.iaload, 1) := by decide +kernel
theorem d_CP_arrive_35 : decode c_CP_arrive 35 = .ok (.isub, 1) := by decide +kernel
theorem d_CP_arrive_36 : decode c_CP_arrive 36 = .ok (.if_icmp .gt (7), 3) := by decide +kernel
theorem d_CP_arrive_39 : decode c_CP_arrive 39 = .ok (.iconst 1, 1) := by decide +kernel
theorem d_CP_arrive_40 : decode c_CP_arrive 40 = .ok (.goto (4), 3) := by decide +kernel
theorem d_CP_arrive_43 : decode c_CP_arrive 43 = .ok (.iconst 0, 1) := by decide +kernel
theorem d_CP_arrive_44 : decode c_CP_arrive 44 = .ok (.invokestatic 78, 3) := by decide +kernel
theorem d_CP_arrive_47 : decode c_CP_arrive 47 = .ok (.aload_n 0, 1) := by decide +kernel
theorem d_CP_arrive_48 : decode c_CP_arrive 48 = .ok (.getfield 10, 3) := by decide +kernel
theorem d_CP_arrive_51 : decode c_CP_arrive 51 = .ok (.getfield 75, 3) := by decide +kernel
theorem d_CP_arrive_54 : decode c_CP_arrive 54 = .ok (.iload_n 1, 1) := by decide +kernel
theorem d_CP_arrive_55 : decode c_CP_arrive 55 = .ok (.dup2, 1) := by decide +kernel
theorem d_CP_arrive_56 : decode c_CP_arrive 56 = .ok (.iaload, 1) := by decide +kernel
theorem d_CP_arrive_57 : decode c_CP_arrive 57 = .ok (.iload_n 2, 1) := by decide +kernel
theorem d_CP_arrive_58 : decode c_CP_arrive 58 = .ok (.iadd, 1) := by decide +kernel
theorem d_CP_arrive_59 : decode c_CP_arrive 59 = .ok (.iastore, 1) := by decide +kernel
theorem d_CP_arrive_60 : decode c_CP_arrive 60 = .ok (.aload_n 0, 1) := by decide +kernel
theorem d_CP_arrive_61 : decode c_CP_arrive 61 = .ok (.getfield 10, 3) := by decide +kernel
theorem d_CP_arrive_64 : decode c_CP_arrive 64 = .ok (.getfield 75, 3) := by decide +kernel
theorem d_CP_arrive_67 : decode c_CP_arrive 67 = .ok (.iload_n 1, 1) := by decide +kernel
theorem d_CP_arrive_68 : decode c_CP_arrive 68 = .ok (.iaload, 1) := by decide +kernel
theorem d_CP_arrive_69 : decode c_CP_arrive 69 = .ok (.ireturn, 1) := by decide +kernel
theorem d_CP_heat_0 : decode c_CP_heat 0 = .ok (.aload_n 0, 1) := by decide +kernel
theorem d_CP_heat_1 : decode c_CP_heat 1 = .ok (.getfield 19, 3) := by decide +kernel
theorem d_CP_heat_4 : decode c_CP_heat 4 = .ok (.getfield 81, 3) := by decide +kernel
theorem d_CP_heat_7 : decode c_CP_heat 7 = .ok (.iconst 4, 1) := by decide +kernel
theorem d_CP_heat_8 : decode c_CP_heat 8 = .ok (.if_icmp .ge (7), 3) := by decide +kernel
theorem d_CP_heat_11 : decode c_CP_heat 11 = .ok (.iconst 1, 1) := by decide +kernel
theorem d_CP_heat_12 : decode c_CP_heat 12 = .ok (.goto (4), 3) := by decide +kernel
theorem d_CP_heat_15 : decode c_CP_heat 15 = .ok (.iconst 0, 1) := by decide +kernel
theorem d_CP_heat_16 : decode c_CP_heat 16 = .ok (.invokestatic 41, 3) := by decide +kernel
theorem d_CP_heat_19 : decode c_CP_heat 19 = .ok (.iload_n 1, 1) := by decide +kernel
theorem d_CP_heat_20 : decode c_CP_heat 20 = .ok (.iload_n 2, 1) := by decide +kernel
theorem d_CP_heat_21 : decode c_CP_heat 21 = .ok (.iconst 1, 1) := by decide +kernel
theorem d_CP_heat_22 : decode c_CP_heat 22 = .ok (.ldc 49, 2) := by decide +kernel
theorem d_CP_heat_24 : decode c_CP_heat 24 = .ok (.invokestatic 58, 3) := by decide +kernel
theorem d_CP_heat_27 : decode c_CP_heat 27 = .ok (.aload_n 0, 1) := by decide +kernel
theorem d_CP_heat_28 : decode c_CP_heat 28 = .ok (.getfield 19, 3) := by decide +kernel
theorem d_CP_heat_31 : decode c_CP_heat 31 = .ok (.iload_n 1, 1) := by decide +kernel
theorem d_CP_heat_32 : decode c_CP_heat 32 = .ok (.iload_n 2, 1) := by decide +kernel
theorem d_CP_heat_33 : decode c_CP_heat 33 = .ok (.invokevirtual 82, 3) := by decide +kernel
theorem d_CP_heat_36 : decode c_CP_heat 36 = .ok (.ireturn, 1) := by decide +kernel
theorem d_CP_span_0 : decode c_CP_span 0 = .ok (.iload_n 1, 1) := by decide +kernel
theorem d_CP_span_1 : decode c_CP_span 1 = .ok (.aload_n 0, 1) := by decide +kernel
theorem d_CP_span_2 : decode c_CP_span 2 = .ok (.getfield 19, 3) := by decide +kernel
theorem d_CP_span_5 : decode c_CP_span 5 = .ok (.getfield 81, 3) := by decide +kernel
theorem d_CP_span_8 : decode c_CP_span 8 = .ok (.invokestatic 54, 3) := by decide +kernel
theorem d_CP_span_11 : decode c_CP_span 11 = .ok (.iload_n 2, 1) := by decide +kernel
theorem d_CP_span_12 : decode c_CP_span 12 = .ok (.iconst 4, 1) := by decide +kernel
theorem d_CP_span_13 : decode c_CP_span 13 = .ok (.invokestatic 54, 3) := by decide +kernel
theorem d_CP_span_16 : decode c_CP_span 16 = .ok (.iload_n 3, 1) := by decide +kernel
theorem d_CP_span_17 : decode c_CP_span 17 = .ok (.iload 4, 2) := by decide +kernel
theorem d_CP_span_19 : decode c_CP_span 19 = .ok (.iconst 0, 1) := by decide +kernel
theorem d_CP_span_20 : decode c_CP_span 20 = .ok (.sipush (10000), 3) := by decide +kernel
theorem d_CP_span_23 : decode c_CP_span 23 = .ok (.invokestatic 58, 3) := by decide +kernel
theorem d_CP_span_26 : decode c_CP_span 26 = .ok (.aload_n 0, 1) := by decide +kernel
theorem d_CP_span_27 : decode c_CP_span 27 = .ok (.getfield 19, 3) := by decide +kernel
theorem d_CP_span_30 : decode c_CP_span 30 = .ok (.getfield 85, 3) := by decide +kernel
theorem d_CP_span_33 : decode c_CP_span 33 = .ok (.iload_n 1, 1) := by decide +kernel
theorem d_CP_span_34 : decode c_CP_span 34 = .ok (.iconst 4, 1) := by decide +kernel
theorem d_CP_span_35 : decode c_CP_span 35 = .ok (.imul, 1) := by decide +kernel
theorem d_CP_span_36 : decode c_CP_span 36 = .ok (.iload_n 2, 1) := by decide +kernel
theorem d_CP_span_37 : decode c_CP_span 37 = .ok (.iadd, 1) := by decide +kernel
theorem d_CP_span_38 : decode c_CP_span 38 = .ok (.iload_n 3, 1) := by decide +kernel
theorem d_CP_span_39 : decode c_CP_span 39 = .ok (.iastore, 1) := by decide +kernel
theorem d_CP_span_40 : decode c_CP_span 40 = .ok (.aload_n 0, 1) := by decide +kernel
theorem d_CP_span_41 : decode c_CP_span 41 = .ok (.getfield 19, 3) := by decide +kernel
theorem d_CP_span_44 : decode c_CP_span 44 = .ok (.getfield 86, 3) := by decide +kernel
theorem d_CP_span_47 : decode c_CP_span 47 = .ok (.iload_n 1, 1) := by decide +kernel
theorem d_CP_span_48 : decode c_CP_span 48 = .ok (.iconst 4, 1) := by decide +kernel
theorem d_CP_span_49 : decode c_CP_span 49 = .ok (.imul, 1) := by decide +kernel
theorem d_CP_span_50 : decode c_CP_span 50 = .ok (.iload_n 2, 1) := by decide +kernel
theorem d_CP_span_51 : decode c_CP_span 51 = .ok (.iadd, 1) := by decide +kernel
theorem d_CP_span_52 : decode c_CP_span 52 = .ok (.iload 4, 2) := by decide +kernel
theorem d_CP_span_54 : decode c_CP_span 54 = .ok (.iastore, 1) := by decide +kernel
theorem d_CP_span_55 : decode c_CP_span 55 = .ok (.return_, 1) := by decide +kernel
theorem d_CP_most_0 : decode c_CP_most 0 = .ok (.iload_n 1, 1) := by decide +kernel
theorem d_CP_most_1 : decode c_CP_most 1 = .ok (.aload_n 0, 1) := by decide +kernel
theorem d_CP_most_2 : decode c_CP_most 2 = .ok (.getfield 19, 3) := by decide +kernel
theorem d_CP_most_5 : decode c_CP_most 5 = .ok (.getfield 81, 3) := by decide +kernel
theorem d_CP_most_8 : decode c_CP_most 8 = .ok (.invokestatic 54, 3) := by decide +kernel
theorem d_CP_most_11 : decode c_CP_most 11 = .ok (.iload_n 2, 1) := by decide +kernel
theorem d_CP_most_12 : decode c_CP_most 12 = .ok (.iconst 0, 1) := by decide +kernel
theorem d_CP_most_13 : decode c_CP_most 13 = .ok (.bipush (30), 2) := by decide +kernel
theorem d_CP_most_15 : decode c_CP_most 15 = .ok (.invokestatic 45, 3) := by decide +kernel
theorem d_CP_most_18 : decode c_CP_most 18 = .ok (.aload_n 0, 1) := by decide +kernel
theorem d_CP_most_19 : decode c_CP_most 19 = .ok (.getfield 19, 3) := by decide +kernel
theorem d_CP_most_22 : decode c_CP_most 22 = .ok (.getfield 87, 3) := by decide +kernel
theorem d_CP_most_25 : decode c_CP_most 25 = .ok (.iload_n 1, 1) := by decide +kernel
theorem d_CP_most_26 : decode c_CP_most 26 = .ok (.iload_n 2, 1) := by decide +kernel
theorem d_CP_most_27 : decode c_CP_most 27 = .ok (.iastore, 1) := by decide +kernel
theorem d_CP_most_28 : decode c_CP_most 28 = .ok (.return_, 1) := by decide +kernel
theorem d_CP_plan_0 : decode c_CP_plan 0 = .ok (.iload_n 1, 1) := by decide +kernel
theorem d_CP_plan_1 : decode c_CP_plan 1 = .ok (.aload_n 0, 1) := by decide +kernel
theorem d_CP_plan_2 : decode c_CP_plan 2 = .ok (.getfield 19, 3) := by decide +kernel
theorem d_CP_plan_5 : decode c_CP_plan 5 = .ok (.getfield 81, 3) := by decide +kernel
theorem d_CP_plan_8 : decode c_CP_plan 8 = .ok (.invokestatic 54, 3) := by decide +kernel
theorem d_CP_plan_11 : decode c_CP_plan 11 = .ok (.iload_n 2, 1) := by decide +kernel
theorem d_CP_plan_12 : decode c_CP_plan 12 = .ok (.iconst 0, 1) := by decide +kernel
theorem d_CP_plan_13 : decode c_CP_plan 13 = .ok (.ldc 49, 2) := by decide +kernel
theorem d_CP_plan_15 : decode c_CP_plan 15 = .ok (.invokestatic 45, 3) := by decide +kernel
theorem d_CP_plan_18 : decode c_CP_plan 18 = .ok (.aload_n 0, 1) := by decide +kernel
theorem d_CP_plan_19 : decode c_CP_plan 19 = .ok (.getfield 26, 3) := by decide +kernel
theorem d_CP_plan_22 : decode c_CP_plan 22 = .ok (.aload_n 0, 1) := by decide +kernel
theorem d_CP_plan_23 : decode c_CP_plan 23 = .ok (.getfield 10, 3) := by decide +kernel
theorem d_CP_plan_26 : decode c_CP_plan 26 = .ok (.aload_n 0, 1) := by decide +kernel
theorem d_CP_plan_27 : decode c_CP_plan 27 = .ok (.getfield 19, 3) := by decide +kernel
theorem d_CP_plan_30 : decode c_CP_plan 30 = .ok (.iload_n 1, 1) := by decide +kernel
theorem d_CP_plan_31 : decode c_CP_plan 31 = .ok (.iload_n 2, 1) := by decide +kernel
theorem d_CP_plan_32 : decode c_CP_plan 32 = .ok (.invokevirtual 90, 3) := by decide +kernel
theorem d_CP_plan_35 : decode c_CP_plan 35 = .ok (.aload_n 0, 1) := by decide +kernel
theorem d_CP_plan_36 : decode c_CP_plan 36 = .ok (.getfield 19, 3) := by decide +kernel
theorem d_CP_plan_39 : decode c_CP_plan 39 = .ok (.iload_n 1, 1) := by decide +kernel
theorem d_CP_plan_40 : decode c_CP_plan 40 = .ok (.aload_n 0, 1) := by decide +kernel
theorem d_CP_plan_41 : decode c_CP_plan 41 = .ok (.getfield 26, 3) := by decide +kernel
theorem d_CP_plan_44 : decode c_CP_plan 44 = .ok (.getfield 94, 3) := by decide +kernel
theorem d_CP_plan_47 : decode c_CP_plan 47 = .ok (.aload_n 0, 1) := by decide +kernel
theorem d_CP_plan_48 : decode c_CP_plan 48 = .ok (.getfield 26, 3) := by decide +kernel
theorem d_CP_plan_51 : decode c_CP_plan 51 = .ok (.getfield 97, 3) := by decide +kernel
theorem d_CP_plan_54 : decode c_CP_plan 54 = .ok (.invokevirtual 100, 3) := by decide +kernel
theorem d_CP_plan_57 : decode c_CP_plan 57 = .ok (.aload_n 0, 1) := by decide +kernel
theorem d_CP_plan_58 : decode c_CP_plan 58 = .ok (.getfield 26, 3) := by decide +kernel
theorem d_CP_plan_61 : decode c_CP_plan 61 = .ok (.getfield 97, 3) := by decide +kernel
theorem d_CP_plan_64 : decode c_CP_plan 64 = .ok (.ireturn, 1) := by decide +kernel
theorem d_CP_planned_0 : decode c_CP_planned 0 = .ok (.iload_n 1, 1) := by decide +kernel
theorem d_CP_planned_1 : decode c_CP_planned 1 = .ok (.iconst 2, 1) := by decide +kernel
theorem d_CP_planned_2 : decode c_CP_planned 2 = .ok (.invokestatic 54, 3) := by decide +kernel
theorem d_CP_planned_5 : decode c_CP_planned 5 = .ok (.aload_n 0, 1) := by decide +kernel
theorem d_CP_planned_6 : decode c_CP_planned 6 = .ok (.getfield 26, 3) := by decide +kernel
theorem d_CP_planned_9 : decode c_CP_planned 9 = .ok (.getfield 104, 3) := by decide +kernel
theorem d_CP_planned_12 : decode c_CP_planned 12 = .ok (.invokestatic 41, 3) := by decide +kernel
theorem d_CP_planned_15 : decode c_CP_planned 15 = .ok (.iload_n 1, 1) := by decide +kernel
theorem d_CP_planned_16 : decode c_CP_planned 16 = .ok (.iconst 1, 1) := by decide +kernel
theorem d_CP_planned_17 : decode c_CP_planned 17 = .ok (.if_icmp .ne (11), 3) := by decide +kernel
theorem d_CP_planned_20 : decode c_CP_planned 20 = .ok (.aload_n 0, 1) := by decide +kernel
theorem d_CP_planned_21 : decode c_CP_planned 21 = .ok (.getfield 26, 3) := by decide +kernel
theorem d_CP_planned_24 : decode c_CP_planned 24 = .ok (.getfield 108, 3) := by decide +kernel
theorem d_CP_planned_27 : decode c_CP_planned 27 = .ok (.ireturn, 1) := by decide +kernel
theorem d_CP_planned_28 : decode c_CP_planned 28 = .ok (.aload_n 0, 1) := by decide +kernel
theorem d_CP_planned_29 : decode c_CP_planned 29 = .ok (.getfield 26, 3) := by decide +kernel
theorem d_CP_planned_32 : decode c_CP_planned 32 = .ok (.getfield 111, 3) := by decide +kernel
theorem d_CP_planned_35 : decode c_CP_planned 35 = .ok (.ifCond .eq (7), 3) := by decide +kernel
theorem d_CP_planned_38 : decode c_CP_planned 38 = .ok (.iconst 1, 1) := by decide +kernel
theorem d_CP_planned_39 : decode c_CP_planned 39 = .ok (.goto (4), 3) := by decide +kernel
theorem d_CP_planned_42 : decode c_CP_planned 42 = .ok (.iconst 0, 1) := by decide +kernel
theorem d_CP_planned_43 : decode c_CP_planned 43 = .ok (.ireturn, 1) := by decide +kernel
theorem d_CP_amount_0 : decode c_CP_amount 0 = .ok (.iload_n 1, 1) := by decide +kernel
theorem d_CP_amount_1 : decode c_CP_amount 1 = .ok (.aload_n 0, 1) := by decide +kernel
theorem d_CP_amount_2 : decode c_CP_amount 2 = .ok (.getfield 19, 3) := by decide +kernel
theorem d_CP_amount_5 : decode c_CP_amount 5 = .ok (.getfield 81, 3) := by decide +kernel
theorem d_CP_amount_8 : decode c_CP_amount 8 = .ok (.invokestatic 54, 3) := by decide +kernel
theorem d_CP_amount_11 : decode c_CP_amount 11 = .ok (.iload_n 2, 1) := by decide +kernel
theorem d_CP_amount_12 : decode c_CP_amount 12 = .ok (.aload_n 0, 1) := by decide +kernel
theorem d_CP_amount_13 : decode c_CP_amount 13 = .ok (.getfield 10, 3) := by decide +kernel
theorem d_CP_amount_16 : decode c_CP_amount 16 = .ok (.getfield 37, 3) := by decide +kernel
theorem d_CP_amount_19 : decode c_CP_amount 19 = .ok (.invokestatic 54, 3) := by decide +kernel
theorem d_CP_amount_22 : decode c_CP_amount 22 = .ok (.aload_n 0, 1) := by decide +kernel
theorem d_CP_amount_23 : decode c_CP_amount 23 = .ok (.getfield 19, 3) := by decide +kernel
theorem d_CP_amount_26 : decode c_CP_amount 26 = .ok (.iload_n 1, 1) := by decide +kernel
theorem d_CP_amount_27 : decode c_CP_amount 27 = .ok (.invokevirtual 114, 3) := by decide +kernel
theorem d_CP_amount_30 : decode c_CP_amount 30 = .ok (.invokestatic 41, 3) := by decide +kernel
theorem d_CP_amount_33 : decode c_CP_amount 33 = .ok (.aload_n 0, 1) := by decide +kernel
theorem d_CP_amount_34 : decode c_CP_amount 34 = .ok (.getfield 19, 3) := by decide +kernel
theorem d_CP_amount_37 : decode c_CP_amount 37 = .ok (.getfield 118, 3) := by decide +kernel
theorem d_CP_amount_40 : decode c_CP_amount 40 = .ok (.iload_n 1, 1) := by decide +kernel
theorem d_CP_amount_41 : decode c_CP_amount 41 = .ok (.iconst 5, 1) := by decide +kernel
theorem d_CP_amount_42 : decode c_CP_amount 42 = .ok (.imul, 1) := by decide +kernel
theorem d_CP_amount_43 : decode c_CP_amount 43 = .ok (.iload_n 2, 1) := by decide +kernel
theorem d_CP_amount_44 : decode c_CP_amount 44 = .ok (.iadd, 1) := by decide +kernel
theorem d_CP_amount_45 : decode c_CP_amount 45 = .ok (.iaload, 1) := by decide +kernel
theorem d_CP_amount_46 : decode c_CP_amount 46 = .ok (.ireturn, 1) := by decide +kernel
theorem d_CP_worst_0 : decode c_CP_worst 0 = .ok (.iload_n 1, 1) := by decide +kernel
theorem d_CP_worst_1 : decode c_CP_worst 1 = .ok (.aload_n 0, 1) := by decide +kernel
theorem d_CP_worst_2 : decode c_CP_worst 2 = .ok (.getfield 19, 3) := by decide +kernel
theorem d_CP_worst_5 : decode c_CP_worst 5 = .ok (.getfield 81, 3) := by decide +kernel
theorem d_CP_worst_8 : decode c_CP_worst 8 = .ok (.invokestatic 54, 3) := by decide +kernel
theorem d_CP_worst_11 : decode c_CP_worst 11 = .ok (.iload_n 2, 1) := by decide +kernel
theorem d_CP_worst_12 : decode c_CP_worst 12 = .ok (.iconst 4, 1) := by decide +kernel
theorem d_CP_worst_13 : decode c_CP_worst 13 = .ok (.invokestatic 54, 3) := by decide +kernel
theorem d_CP_worst_16 : decode c_CP_worst 16 = .ok (.iload_n 3, 1) := by decide +kernel
theorem d_CP_worst_17 : decode c_CP_worst 17 = .ok (.iconst 2, 1) := by decide +kernel
theorem d_CP_worst_18 : decode c_CP_worst 18 = .ok (.invokestatic 54, 3) := by decide +kernel
theorem d_CP_worst_21 : decode c_CP_worst 21 = .ok (.iload 4, 2) := by decide +kernel
theorem d_CP_worst_23 : decode c_CP_worst 23 = .ok (.iconst 2, 1) := by decide +kernel
theorem d_CP_worst_24 : decode c_CP_worst 24 = .ok (.invokestatic 54, 3) := by decide +kernel
theorem d_CP_worst_27 : decode c_CP_worst 27 = .ok (.aload_n 0, 1) := by decide +kernel
theorem d_CP_worst_28 : decode c_CP_worst 28 = .ok (.getfield 19, 3) := by decide +kernel
theorem d_CP_worst_31 : decode c_CP_worst 31 = .ok (.iload_n 1, 1) := by decide +kernel
theorem d_CP_worst_32 : decode c_CP_worst 32 = .ok (.invokevirtual 114, 3) := by decide +kernel
theorem d_CP_worst_35 : decode c_CP_worst 35 = .ok (.invokestatic 41, 3) := by decide +kernel
theorem d_CP_worst_38 : decode c_CP_worst 38 = .ok (.aload_n 0, 1) := by decide +kernel
theorem d_CP_worst_39 : decode c_CP_worst 39 = .ok (.iload_n 1, 1) := by decide +kernel
theorem d_CP_worst_40 : decode c_CP_worst 40 = .ok (.invokevirtual 121, 3) := by decide +kernel
theorem d_CP_worst_43 : decode c_CP_worst 43 = .ok (.lstore 5, 2) := by decide +kernel
theorem d_CP_worst_45 : decode c_CP_worst 45 = .ok (.lload 5, 2) := by decide +kernel
theorem d_CP_worst_47 : decode c_CP_worst 47 = .ok (.lconst 0, 1) := by decide +kernel
theorem d_CP_worst_48 : decode c_CP_worst 48 = .ok (.lcmp, 1) := by decide +kernel
theorem d_CP_worst_49 : decode c_CP_worst 49 = .ok (.ifCond .le (7), 3) := by decide +kernel
theorem d_CP_worst_52 : decode c_CP_worst 52 = .ok (.iconst 1, 1) := by decide +kernel
theorem d_CP_worst_53 : decode c_CP_worst 53 = .ok (.goto (4), 3) := by decide +kernel
theorem d_CP_worst_56 : decode c_CP_worst 56 = .ok (.iconst 0, 1) := by decide +kernel
theorem d_CP_worst_57 : decode c_CP_worst 57 = .ok (.invokestatic 78, 3) := by decide +kernel
theorem d_CP_worst_60 : decode c_CP_worst 60 = .ok (.aload_n 0, 1) := by decide +kernel
theorem d_CP_worst_61 : decode c_CP_worst 61 = .ok (.iload_n 1, 1) := by decide +kernel
theorem d_CP_worst_62 : decode c_CP_worst 62 = .ok (.iload_n 2, 1) := by decide +kernel
theorem d_CP_worst_63 : decode c_CP_worst 63 = .ok (.iload_n 3, 1) := by decide +kernel
theorem d_CP_worst_64 : decode c_CP_worst 64 = .ok (.ifCond .ne (13), 3) := by decide +kernel
theorem d_CP_worst_67 : decode c_CP_worst 67 = .ok (.aload_n 0, 1) := by decide +kernel
theorem d_CP_worst_68 : decode c_CP_worst 68 = .ok (.getfield 10, 3) := by decide +kernel
theorem d_CP_worst_71 : decode c_CP_worst 71 = .ok (.getfield 62, 3) := by decide +kernel
theorem d_CP_worst_74 : decode c_CP_worst 74 = .ok (.goto (10), 3) := by decide +kernel
theorem d_CP_worst_77 : decode c_CP_worst 77 = .ok (.aload_n 0, 1) := by decide +kernel
theorem d_CP_worst_78 : decode c_CP_worst 78 = .ok (.getfield 10, 3) := by decide +kernel
theorem d_CP_worst_81 : decode c_CP_worst 81 = .ok (.getfield 66, 3) := by decide +kernel
theorem d_CP_worst_84 : decode c_CP_worst 84 = .ok (.invokevirtual 125, 3) := by decide +kernel
theorem d_CP_worst_87 : decode c_CP_worst 87 = .ok (.lstore 7, 2) := by decide +kernel
theorem d_CP_worst_89 : decode c_CP_worst 89 = .ok (.iload 4, 2) := by decide +kernel
theorem d_CP_worst_91 : decode c_CP_worst 91 = .ok (.ifCond .ne (8), 3) := by decide +kernel
theorem d_CP_worst_94 : decode c_CP_worst 94 = .ok (.lload 7, 2) := by decide +kernel
theorem d_CP_worst_96 : decode c_CP_worst 96 = .ok (.goto (5), 3) := by decide +kernel
theorem d_CP_worst_99 : decode c_CP_worst 99 = .ok (.lload 5, 2) := by decide +kernel
theorem d_CP_worst_101 : decode c_CP_worst 101 = .ok (.lload 7, 2) := by decide +kernel
theorem d_CP_worst_103 : decode c_CP_worst 103 = .ok (.lload 5, 2) := by decide +kernel
theorem d_CP_worst_105 : decode c_CP_worst 105 = .ok (.invokestatic 129, 3) := by decide +kernel
theorem d_CP_worst_108 : decode c_CP_worst 108 = .ok (.ldiv, 1) := by decide +kernel
theorem d_CP_worst_109 : decode c_CP_worst 109 = .ok (.lreturn, 1) := by decide +kernel
theorem d_CP_bound_0 : decode c_CP_bound 0 = .ok (.iload_n 1, 1) := by decide +kernel
theorem d_CP_bound_1 : decode c_CP_bound 1 = .ok (.aload_n 0, 1) := by decide +kernel
theorem d_CP_bound_2 : decode c_CP_bound 2 = .ok (.getfield 19, 3) := by decide +kernel
theorem d_CP_bound_5 : decode c_CP_bound 5 = .ok (.getfield 81, 3) := by decide +kernel
theorem d_CP_bound_8 : decode c_CP_bound 8 = .ok (.invokestatic 54, 3) := by decide +kernel
theorem d_CP_bound_11 : decode c_CP_bound 11 = .ok (.ldc2_w 133, 3) := by decide +kernel
theorem d_CP_bound_14 : decode c_CP_bound 14 = .ok (.lstore_n 2, 1) := by decide +kernel
theorem d_CP_bound_15 : decode c_CP_bound 15 = .ok (.iconst 0, 1) := by decide +kernel
theorem d_CP_bound_16 : decode c_CP_bound 16 = .ok (.istore 4, 2) := by decide +kernel
theorem d_CP_bound_18 : decode c_CP_bound 18 = .ok (.iload 4, 2) := by decide +kernel
theorem d_CP_bound_20 : decode c_CP_bound 20 = .ok (.aload_n 0, 1) := by decide +kernel
theorem d_CP_bound_21 : decode c_CP_bound 21 = .ok (.getfield 10, 3) := by decide +kernel
theorem d_CP_bound_24 : decode c_CP_bound 24 = .ok (.getfield 37, 3) := by decide +kernel
theorem d_CP_bound_27 : decode c_CP_bound 27 = .ok (.if_icmp .ge (93), 3) := by decide +kernel
theorem d_CP_bound_30 : decode c_CP_bound 30 = .ok (.aload_n 0, 1) := by decide +kernel
theorem d_CP_bound_31 : decode c_CP_bound 31 = .ok (.getfield 10, 3) := by decide +kernel
theorem d_CP_bound_34 : decode c_CP_bound 34 = .ok (.getfield 135, 3) := by decide +kernel
theorem d_CP_bound_37 : decode c_CP_bound 37 = .ok (.iload 4, 2) := by decide +kernel
theorem d_CP_bound_39 : decode c_CP_bound 39 = .ok (.iaload, 1) := by decide +kernel
theorem d_CP_bound_40 : decode c_CP_bound 40 = .ok (.i2l, 1) := by decide +kernel
theorem d_CP_bound_41 : decode c_CP_bound 41 = .ok (.lstore 5, 2) := by decide +kernel
theorem d_CP_bound_43 : decode c_CP_bound 43 = .ok (.aload_n 0, 1) := by decide +kernel
theorem d_CP_bound_44 : decode c_CP_bound 44 = .ok (.getfield 10, 3) := by decide +kernel
theorem d_CP_bound_47 : decode c_CP_bound 47 = .ok (.iload 4, 2) := by decide +kernel
theorem d_CP_bound_49 : decode c_CP_bound 49 = .ok (.invokevirtual 138, 3) := by decide +kernel
theorem d_CP_bound_52 : decode c_CP_bound 52 = .ok (.ifCond .le (62), 3) := by decide +kernel
theorem d_CP_bound_55 : decode c_CP_bound 55 = .ok (.lload 5, 2) := by decide +kernel
theorem d_CP_bound_57 : decode c_CP_bound 57 = .ok (.lconst 0, 1) := by decide +kernel
theorem d_CP_bound_58 : decode c_CP_bound 58 = .ok (.lcmp, 1) := by decide +kernel
theorem d_CP_bound_59 : decode c_CP_bound 59 = .ok (.ifCond .le (55), 3) := by decide +kernel
theorem d_CP_bound_62 : decode c_CP_bound 62 = .ok (.aload_n 0, 1) := by decide +kernel
theorem d_CP_bound_63 : decode c_CP_bound 63 = .ok (.getfield 19, 3) := by decide +kernel
theorem d_CP_bound_66 : decode c_CP_bound 66 = .ok (.getfield 142, 3) := by decide +kernel
theorem d_CP_bound_69 : decode c_CP_bound 69 = .ok (.iload_n 1, 1) := by decide +kernel
theorem d_CP_bound_70 : decode c_CP_bound 70 = .ok (.iaload, 1) := by decide +kernel
theorem d_CP_bound_71 : decode c_CP_bound 71 = .ok (.i2l, 1) := by decide +kernel
theorem d_CP_bound_72 : decode c_CP_bound 72 = .ok (.aload_n 0, 1) := by decide +kernel
theorem d_CP_bound_73 : decode c_CP_bound 73 = .ok (.getfield 10, 3) := by decide +kernel
theorem d_CP_bound_76 : decode c_CP_bound 76 = .ok (.getfield 145, 3) := by decide +kernel
theorem d_CP_bound_79 : decode c_CP_bound 79 = .ok (.iload 4, 2) := by decide +kernel
theorem d_CP_bound_81 : decode c_CP_bound 81 = .ok (.iaload, 1) := by decide +kernel
theorem d_CP_bound_82 : decode c_CP_bound 82 = .ok (.i2l, 1) := by decide +kernel
theorem d_CP_bound_83 : decode c_CP_bound 83 = .ok (.lmul, 1) := by decide +kernel
theorem d_CP_bound_84 : decode c_CP_bound 84 = .ok (.lload 5, 2) := by decide +kernel
theorem d_CP_bound_86 : decode c_CP_bound 86 = .ok (.ladd, 1) := by decide +kernel
theorem d_CP_bound_87 : decode c_CP_bound 87 = .ok (.lconst 1, 1) := by decide +kernel
theorem d_CP_bound_88 : decode c_CP_bound 88 = .ok (.lsub, 1) := by decide +kernel
theorem d_CP_bound_89 : decode c_CP_bound 89 = .ok (.lload 5, 2) := by decide +kernel
theorem d_CP_bound_91 : decode c_CP_bound 91 = .ok (.ldiv, 1) := by decide +kernel
theorem d_CP_bound_92 : decode c_CP_bound 92 = .ok (.lstore 7, 2) := by decide +kernel
theorem d_CP_bound_94 : decode c_CP_bound 94 = .ok (.lload_n 2, 1) := by decide +kernel
theorem d_CP_bound_95 : decode c_CP_bound 95 = .ok (.ldc2_w 133, 3) := by decide +kernel
theorem d_CP_bound_98 : decode c_CP_bound 98 = .ok (.lcmp, 1) := by decide +kernel
theorem d_CP_bound_99 : decode c_CP_bound 99 = .ok (.ifCond .ne (8), 3) := by decide +kernel
theorem d_CP_bound_102 : decode c_CP_bound 102 = .ok (.lload 7, 2) := by decide +kernel
theorem d_CP_bound_104 : decode c_CP_bound 104 = .ok (.goto (9), 3) := by decide +kernel
