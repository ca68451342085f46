theorem d_L_good_0 : decode c_L_good 0 = .ok (.aload 4, 2) := by decide +kernel
theorem d_L_good_2 : decode c_L_good 2 = .ok (.iconst 0, 1) := by decide +kernel
theorem d_L_good_3 : decode c_L_good 3 = .ok (.aload_n 0, 1) := by decide +kernel
theorem d_L_good_4 : decode c_L_good 4 = .ok (.iload_n 1, 1) := by decide +kernel
theorem d_L_good_5 : decode c_L_good 5 = .ok (.iload_n 2, 1) := by decide +kernel
theorem d_L_good_6 : decode c_L_good 6 = .ok (.iload_n 3, 1) := by decide +kernel
theorem d_L_good_7 : decode c_L_good 7 = .ok (.invokevirtual 7, 3) := by decide +kernel
theorem d_L_good_10 : decode c_L_good 10 = .ok (.i2l, 1) := by decide +kernel
theorem d_L_good_11 : decode c_L_good 11 = .ok (.lastore, 1) := by decide +kernel
theorem d_L_good_12 : decode c_L_good 12 = .ok (.goto (11), 3) := by decide +kernel
theorem d_L_good_15 : decode c_L_good 15 = .ok (.astore 5, 2) := by decide +kernel
theorem d_L_good_17 : decode c_L_good 17 = .ok (.iconst 1, 1) := by decide +kernel
theorem d_L_good_18 : decode c_L_good 18 = .ok (.ireturn, 1) := by decide +kernel
theorem d_L_good_19 : decode c_L_good 19 = .ok (.astore 5, 2) := by decide +kernel
theorem d_L_good_21 : decode c_L_good 21 = .ok (.iconst 2, 1) := by decide +kernel
theorem d_L_good_22 : decode c_L_good 22 = .ok (.ireturn, 1) := by decide +kernel
theorem d_L_good_23 : decode c_L_good 23 = .ok (.iconst 0, 1) := by decide +kernel
theorem d_L_good_24 : decode c_L_good 24 = .ok (.ireturn, 1) := by decide +kernel
theorem d_L_element_0 : decode c_L_element 0 = .ok (.aload_n 0, 1) := by decide +kernel
theorem d_L_element_1 : decode c_L_element 1 = .ok (.iload_n 1, 1) := by decide +kernel
theorem d_L_element_2 : decode c_L_element 2 = .ok (.iload_n 2, 1) := by decide +kernel
theorem d_L_element_3 : decode c_L_element 3 = .ok (.iload_n 3, 1) := by decide +kernel
theorem d_L_element_4 : decode c_L_element 4 = .ok (.iload 4, 2) := by decide +kernel
theorem d_L_element_6 : decode c_L_element 6 = .ok (.invokevirtual 17, 3) := by decide +kernel
theorem d_L_element_9 : decode c_L_element 9 = .ok (.goto (11), 3) := by decide +kernel
theorem d_L_element_12 : decode c_L_element 12 = .ok (.astore 5, 2) := by decide +kernel
theorem d_L_element_14 : decode c_L_element 14 = .ok (.iconst 1, 1) := by decide +kernel
theorem d_L_element_15 : decode c_L_element 15 = .ok (.ireturn, 1) := by decide +kernel
theorem d_L_element_16 : decode c_L_element 16 = .ok (.astore 5, 2) := by decide +kernel
theorem d_L_element_18 : decode c_L_element 18 = .ok (.iconst 2, 1) := by decide +kernel
theorem d_L_element_19 : decode c_L_element 19 = .ok (.ireturn, 1) := by decide +kernel
theorem d_L_element_20 : decode c_L_element 20 = .ok (.iconst 0, 1) := by decide +kernel
theorem d_L_element_21 : decode c_L_element 21 = .ok (.ireturn, 1) := by decide +kernel
theorem d_L_limit_0 : decode c_L_limit 0 = .ok (.aload_n 0, 1) := by decide +kernel
theorem d_L_limit_1 : decode c_L_limit 1 = .ok (.iload_n 1, 1) := by decide +kernel
theorem d_L_limit_2 : decode c_L_limit 2 = .ok (.iload_n 2, 1) := by decide +kernel
theorem d_L_limit_3 : decode c_L_limit 3 = .ok (.invokevirtual 23, 3) := by decide +kernel
theorem d_L_limit_6 : decode c_L_limit 6 = .ok (.goto (9), 3) := by decide +kernel
theorem d_L_limit_9 : decode c_L_limit 9 = .ok (.astore_n 3, 1) := by decide +kernel
theorem d_L_limit_10 : decode c_L_limit 10 = .ok (.iconst 1, 1) := by decide +kernel
theorem d_L_limit_11 : decode c_L_limit 11 = .ok (.ireturn, 1) := by decide +kernel
theorem d_L_limit_12 : decode c_L_limit 12 = .ok (.astore_n 3, 1) := by decide +kernel
theorem d_L_limit_13 : decode c_L_limit 13 = .ok (.iconst 2, 1) := by decide +kernel
theorem d_L_limit_14 : decode c_L_limit 14 = .ok (.ireturn, 1) := by decide +kernel
theorem d_L_limit_15 : decode c_L_limit 15 = .ok (.iconst 0, 1) := by decide +kernel
theorem d_L_limit_16 : decode c_L_limit 16 = .ok (.ireturn, 1) := by decide +kernel
theorem d_L_arrive_0 : decode c_L_arrive 0 = .ok (.aload_n 3, 1) := by decide +kernel
theorem d_L_arrive_1 : decode c_L_arrive 1 = .ok (.iconst 0, 1) := by decide +kernel
theorem d_L_arrive_2 : decode c_L_arrive 2 = .ok (.aload_n 0, 1) := by decide +kernel
theorem d_L_arrive_3 : decode c_L_arrive 3 = .ok (.iload_n 1, 1) := by decide +kernel
theorem d_L_arrive_4 : decode c_L_arrive 4 = .ok (.iload_n 2, 1) := by decide +kernel
theorem d_L_arrive_5 : decode c_L_arrive 5 = .ok (.invokevirtual 27, 3) := by decide +kernel
theorem d_L_arrive_8 : decode c_L_arrive 8 = .ok (.i2l, 1) := by decide +kernel
theorem d_L_arrive_9 : decode c_L_arrive 9 = .ok (.lastore, 1) := by decide +kernel
theorem d_L_arrive_10 : decode c_L_arrive 10 = .ok (.goto (15), 3) := by decide +kernel
theorem d_L_arrive_13 : decode c_L_arrive 13 = .ok (.astore 4, 2) := by decide +kernel
theorem d_L_arrive_15 : decode c_L_arrive 15 = .ok (.iconst 1, 1) := by decide +kernel
theorem d_L_arrive_16 : decode c_L_arrive 16 = .ok (.ireturn, 1) := by decide +kernel
theorem d_L_arrive_17 : decode c_L_arrive 17 = .ok (.astore 4, 2) := by decide +kernel
theorem d_L_arrive_19 : decode c_L_arrive 19 = .ok (.iconst 2, 1) := by decide +kernel
theorem d_L_arrive_20 : decode c_L_arrive 20 = .ok (.ireturn, 1) := by decide +kernel
theorem d_L_arrive_21 : decode c_L_arrive 21 = .ok (.astore 4, 2) := by decide +kernel
theorem d_L_arrive_23 : decode c_L_arrive 23 = .ok (.iconst 3, 1) := by decide +kernel
theorem d_L_arrive_24 : decode c_L_arrive 24 = .ok (.ireturn, 1) := by decide +kernel
theorem d_L_arrive_25 : decode c_L_arrive 25 = .ok (.iconst 0, 1) := by decide +kernel
theorem d_L_arrive_26 : decode c_L_arrive 26 = .ok (.ireturn, 1) := by decide +kernel
theorem d_L_heat_0 : decode c_L_heat 0 = .ok (.aload_n 3, 1) := by decide +kernel
theorem d_L_heat_1 : decode c_L_heat 1 = .ok (.iconst 0, 1) := by decide +kernel
theorem d_L_heat_2 : decode c_L_heat 2 = .ok (.aload_n 0, 1) := by decide +kernel
theorem d_L_heat_3 : decode c_L_heat 3 = .ok (.iload_n 1, 1) := by decide +kernel
theorem d_L_heat_4 : decode c_L_heat 4 = .ok (.iload_n 2, 1) := by decide +kernel
theorem d_L_heat_5 : decode c_L_heat 5 = .ok (.invokevirtual 33, 3) := by decide +kernel
theorem d_L_heat_8 : decode c_L_heat 8 = .ok (.i2l, 1) := by decide +kernel
theorem d_L_heat_9 : decode c_L_heat 9 = .ok (.lastore, 1) := by decide +kernel
theorem d_L_heat_10 : decode c_L_heat 10 = .ok (.goto (11), 3) := by decide +kernel
theorem d_L_heat_13 : decode c_L_heat 13 = .ok (.astore 4, 2) := by decide +kernel
theorem d_L_heat_15 : decode c_L_heat 15 = .ok (.iconst 1, 1) := by decide +kernel
theorem d_L_heat_16 : decode c_L_heat 16 = .ok (.ireturn, 1) := by decide +kernel
theorem d_L_heat_17 : decode c_L_heat 17 = .ok (.astore 4, 2) := by decide +kernel
theorem d_L_heat_19 : decode c_L_heat 19 = .ok (.iconst 2, 1) := by decide +kernel
theorem d_L_heat_20 : decode c_L_heat 20 = .ok (.ireturn, 1) := by decide +kernel
theorem d_L_heat_21 : decode c_L_heat 21 = .ok (.iconst 0, 1) := by decide +kernel
theorem d_L_heat_22 : decode c_L_heat 22 = .ok (.ireturn, 1) := by decide +kernel
theorem d_L_span_0 : decode c_L_span 0 = .ok (.aload_n 0, 1) := by decide +kernel
theorem d_L_span_1 : decode c_L_span 1 = .ok (.iload_n 1, 1) := by decide +kernel
theorem d_L_span_2 : decode c_L_span 2 = .ok (.iload_n 2, 1) := by decide +kernel
theorem d_L_span_3 : decode c_L_span 3 = .ok (.iload_n 3, 1) := by decide +kernel
theorem d_L_span_4 : decode c_L_span 4 = .ok (.iload 4, 2) := by decide +kernel
theorem d_L_span_6 : decode c_L_span 6 = .ok (.invokevirtual 36, 3) := by decide +kernel
theorem d_L_span_9 : decode c_L_span 9 = .ok (.goto (11), 3) := by decide +kernel
theorem d_L_span_12 : decode c_L_span 12 = .ok (.astore 5, 2) := by decide +kernel
theorem d_L_span_14 : decode c_L_span 14 = .ok (.iconst 1, 1) := by decide +kernel
theorem d_L_span_15 : decode c_L_span 15 = .ok (.ireturn, 1) := by decide +kernel
theorem d_L_span_16 : decode c_L_span 16 = .ok (.astore 5, 2) := by decide +kernel
theorem d_L_span_18 : decode c_L_span 18 = .ok (.iconst 2, 1) := by decide +kernel
theorem d_L_span_19 : decode c_L_span 19 = .ok (.ireturn, 1) := by decide +kernel
theorem d_L_span_20 : decode c_L_span 20 = .ok (.iconst 0, 1) := by decide +kernel
theorem d_L_span_21 : decode c_L_span 21 = .ok (.ireturn, 1) := by decide +kernel
theorem d_L_most_0 : decode c_L_most 0 = .ok (.aload_n 0, 1) := by decide +kernel
theorem d_L_most_1 : decode c_L_most 1 = .ok (.iload_n 1, 1) := by decide +kernel
theorem d_L_most_2 : decode c_L_most 2 = .ok (.iload_n 2, 1) := by decide +kernel
theorem d_L_most_3 : decode c_L_most 3 = .ok (.invokevirtual 39, 3) := by decide +kernel
theorem d_L_most_6 : decode c_L_most 6 = .ok (.goto (9), 3) := by decide +kernel
theorem d_L_most_9 : decode c_L_most 9 = .ok (.astore_n 3, 1) := by decide +kernel
theorem d_L_most_10 : decode c_L_most 10 = .ok (.iconst 1, 1) := by decide +kernel
theorem d_L_most_11 : decode c_L_most 11 = .ok (.ireturn, 1) := by decide +kernel
theorem d_L_most_12 : decode c_L_most 12 = .ok (.astore_n 3, 1) := by decide +kernel
theorem d_L_most_13 : decode c_L_most 13 = .ok (.iconst 2, 1) := by decide +kernel
theorem d_L_most_14 : decode c_L_most 14 = .ok (.ireturn, 1) := by decide +kernel
theorem d_L_most_15 : decode c_L_most 15 = .ok (.iconst 0, 1) := by decide +kernel
theorem d_L_most_16 : decode c_L_most 16 = .ok (.ireturn, 1) := by decide +kernel
theorem d_L_plan_0 : decode c_L_plan 0 = .ok (.aload_n 3, 1) := by decide +kernel
theorem d_L_plan_1 : decode c_L_plan 1 = .ok (.iconst 0, 1) := by decide +kernel
theorem d_L_plan_2 : decode c_L_plan 2 = .ok (.aload_n 0, 1) := by decide +kernel
theorem d_L_plan_3 : decode c_L_plan 3 = .ok (.iload_n 1, 1) := by decide +kernel
theorem d_L_plan_4 : decode c_L_plan 4 = .ok (.iload_n 2, 1) := by decide +kernel
theorem d_L_plan_5 : decode c_L_plan 5 = .ok (.invokevirtual 42, 3) := by decide +kernel
theorem d_L_plan_8 : decode c_L_plan 8 = .ok (.i2l, 1) := by decide +kernel
theorem d_L_plan_9 : decode c_L_plan 9 = .ok (.lastore, 1) := by decide +kernel
theorem d_L_plan_10 : decode c_L_plan 10 = .ok (.goto (11), 3) := by decide +kernel
theorem d_L_plan_13 : decode c_L_plan 13 = .ok (.astore 4, 2) := by decide +kernel
theorem d_L_plan_15 : decode c_L_plan 15 = .ok (.iconst 1, 1) := by decide +kernel
theorem d_L_plan_16 : decode c_L_plan 16 = .ok (.ireturn, 1) := by decide +kernel
theorem d_L_plan_17 : decode c_L_plan 17 = .ok (.astore 4, 2) := by decide +kernel
theorem d_L_plan_19 : decode c_L_plan 19 = .ok (.iconst 2, 1) := by decide +kernel
theorem d_L_plan_20 : decode c_L_plan 20 = .ok (.ireturn, 1) := by decide +kernel
theorem d_L_plan_21 : decode c_L_plan 21 = .ok (.iconst 0, 1) := by decide +kernel
theorem d_L_plan_22 : decode c_L_plan 22 = .ok (.ireturn, 1) := by decide +kernel
theorem d_L_planned_0 : decode c_L_planned 0 = .ok (.aload_n 2, 1) := by decide +kernel
theorem d_L_planned_1 : decode c_L_planned 1 = .ok (.iconst 0, 1) := by decide +kernel
theorem d_L_planned_2 : decode c_L_planned 2 = .ok (.aload_n 0, 1) := by decide +kernel
theorem d_L_planned_3 : decode c_L_planned 3 = .ok (.iload_n 1, 1) := by decide +kernel
theorem d_L_planned_4 : decode c_L_planned 4 = .ok (.invokevirtual 45, 3) := by decide +kernel
theorem d_L_planned_7 : decode c_L_planned 7 = .ok (.i2l, 1) := by decide +kernel
theorem d_L_planned_8 : decode c_L_planned 8 = .ok (.lastore, 1) := by decide +kernel
theorem d_L_planned_9 : decode c_L_planned 9 = .ok (.goto (9), 3) := by decide +kernel
theorem d_L_planned_12 : decode c_L_planned 12 = .ok (.astore_n 3, 1) := by decide +kernel
theorem d_L_planned_13 : decode c_L_planned 13 = .ok (.iconst 1, 1) := by decide +kernel
theorem d_L_planned_14 : decode c_L_planned 14 = .ok (.ireturn, 1) := by decide +kernel
theorem d_L_planned_15 : decode c_L_planned 15 = .ok (.astore_n 3, 1) := by decide +kernel
theorem d_L_planned_16 : decode c_L_planned 16 = .ok (.iconst 2, 1) := by decide +kernel
theorem d_L_planned_17 : decode c_L_planned 17 = .ok (.ireturn, 1) := by decide +kernel
theorem d_L_planned_18 : decode c_L_planned 18 = .ok (.iconst 0, 1) := by decide +kernel
theorem d_L_planned_19 : decode c_L_planned 19 = .ok (.ireturn, 1) := by decide +kernel
theorem d_L_amount_0 : decode c_L_amount 0 = .ok (.aload_n 3, 1) := by decide +kernel
theorem d_L_amount_1 : decode c_L_amount 1 = .ok (.iconst 0, 1) := by decide +kernel
theorem d_L_amount_2 : decode c_L_amount 2 = .ok (.aload_n 0, 1) := by decide +kernel
theorem d_L_amount_3 : decode c_L_amount 3 = .ok (.iload_n 1, 1) := by decide +kernel
theorem d_L_amount_4 : decode c_L_amount 4 = .ok (.iload_n 2, 1) := by decide +kernel
theorem d_L_amount_5 : decode c_L_amount 5 = .ok (.invokevirtual 49, 3) := by decide +kernel
theorem d_L_amount_8 : decode c_L_amount 8 = .ok (.i2l, 1) := by decide +kernel
theorem d_L_amount_9 : decode c_L_amount 9 = .ok (.lastore, 1) := by decide +kernel
theorem d_L_amount_10 : decode c_L_amount 10 = .ok (.goto (11), 3) := by decide +kernel
theorem d_L_amount_13 : decode c_L_amount 13 = .ok (.astore 4, 2) := by decide +kernel
theorem d_L_amount_15 : decode c_L_amount 15 = .ok (.iconst 1, 1) := by decide +kernel
theorem d_L_amount_16 : decode c_L_amount 16 = .ok (.ireturn, 1) := by decide +kernel
theorem d_L_amount_17 : decode c_L_amount 17 = .ok (.astore 4, 2) := by decide +kernel
theorem d_L_amount_19 : decode c_L_amount 19 = .ok (.iconst 2, 1) := by decide +kernel
theorem d_L_amount_20 : decode c_L_amount 20 = .ok (.ireturn, 1) := by decide +kernel
theorem d_L_amount_21 : decode c_L_amount 21 = .ok (.iconst 0, 1) := by decide +kernel
theorem d_L_amount_22 : decode c_L_amount 22 = .ok (.ireturn, 1) := by decide +kernel
theorem d_L_worst_0 : decode c_L_worst 0 = .ok (.aload 5, 2) := by decide +kernel
theorem d_L_worst_2 : decode c_L_worst 2 = .ok (.iconst 0, 1) := by decide +kernel
theorem d_L_worst_3 : decode c_L_worst 3 = .ok (.aload_n 0, 1) := by decide +kernel
theorem d_L_worst_4 : decode c_L_worst 4 = .ok (.iload_n 1, 1) := by decide +kernel
theorem d_L_worst_5 : decode c_L_worst 5 = .ok (.iload_n 2, 1) := by decide +kernel
theorem d_L_worst_6 : decode c_L_worst 6 = .ok (.iload_n 3, 1) := by decide +kernel
theorem d_L_worst_7 : decode c_L_worst 7 = .ok (.iload 4, 2) := by decide +kernel
theorem d_L_worst_9 : decode c_L_worst 9 = .ok (.invokevirtual 52, 3) := by decide +kernel
theorem d_L_worst_12 : decode c_L_worst 12 = .ok (.lastore, 1) := by decide +kernel
theorem d_L_worst_13 : decode c_L_worst 13 = .ok (.goto (15), 3) := by decide +kernel
theorem d_L_worst_16 : decode c_L_worst 16 = .ok (.astore 6, 2) := by decide +kernel
theorem d_L_worst_18 : decode c_L_worst 18 = .ok (.iconst 1, 1) := by decide +kernel
theorem d_L_worst_19 : decode c_L_worst 19 = .ok (.ireturn, 1) := by decide +kernel
theorem d_L_worst_20 : decode c_L_worst 20 = .ok (.astore 6, 2) := by decide +kernel
theorem d_L_worst_22 : decode c_L_worst 22 = .ok (.iconst 2, 1) := by decide +kernel
theorem d_L_worst_23 : decode c_L_worst 23 = .ok (.ireturn, 1) := by decide +kernel
theorem d_L_worst_24 : decode c_L_worst 24 = .ok (.astore 6, 2) := by decide +kernel
theorem d_L_worst_26 : decode c_L_worst 26 = .ok (.iconst 3, 1) := by decide +kernel
theorem d_L_worst_27 : decode c_L_worst 27 = .ok (.ireturn, 1) := by decide +kernel
theorem d_L_worst_28 : decode c_L_worst 28 = .ok (.iconst 0, 1) := by decide +kernel
theorem d_L_worst_29 : decode c_L_worst 29 = .ok (.ireturn, 1) := by decide +kernel
theorem d_L_bound_0 : decode c_L_bound 0 = .ok (.aload_n 2, 1) := by decide +kernel
theorem d_L_bound_1 : decode c_L_bound 1 = .ok (.iconst 0, 1) := by decide +kernel
theorem d_L_bound_2 : decode c_L_bound 2 = .ok (.aload_n 0, 1) := by decide +kernel
theorem d_L_bound_3 : decode c_L_bound 3 = .ok (.iload_n 1, 1) := by decide +kernel
theorem d_L_bound_4 : decode c_L_bound 4 = .ok (.invokevirtual 56, 3) := by decide +kernel
theorem d_L_bound_7 : decode c_L_bound 7 = .ok (.lastore, 1) := by decide +kernel
theorem d_L_bound_8 : decode c_L_bound 8 = .ok (.goto (9), 3) := by decide +kernel
theorem d_L_bound_11 : decode c_L_bound 11 = .ok (.astore_n 3, 1) := by decide +kernel
theorem d_L_bound_12 : decode c_L_bound 12 = .ok (.iconst 1, 1) := by decide +kernel
theorem d_L_bound_13 : decode c_L_bound 13 = .ok (.ireturn, 1) := by decide +kernel
theorem d_L_bound_14 : decode c_L_bound 14 = .ok (.astore_n 3, 1) := by decide +kernel
theorem d_L_bound_15 : decode c_L_bound 15 = .ok (.iconst 2, 1) := by decide +kernel
theorem d_L_bound_16 : decode c_L_bound 16 = .ok (.ireturn, 1) := by decide +kernel
theorem d_L_bound_17 : decode c_L_bound 17 = .ok (.iconst 0, 1) := by decide +kernel
theorem d_L_bound_18 : decode c_L_bound 18 = .ok (.ireturn, 1) := by decide +kernel
theorem d_L_clash_0 : decode c_L_clash 0 = .ok (.aload_n 2, 1) := by decide +kernel
theorem d_L_clash_1 : decode c_L_clash 1 = .ok (.iconst 0, 1) := by decide +kernel
theorem d_L_clash_2 : decode c_L_clash 2 = .ok (.aload_n 0, 1) := by decide +kernel
theorem d_L_clash_3 : decode c_L_clash 3 = .ok (.iload_n 1, 1) := by decide +kernel
theorem d_L_clash_4 : decode c_L_clash 4 = .ok (.invokevirtual 60, 3) := by decide +kernel
theorem d_L_clash_7 : decode c_L_clash 7 = .ok (.i2l, 1) := by decide +kernel
theorem d_L_clash_8 : decode c_L_clash 8 = .ok (.lastore, 1) := by decide +kernel
theorem d_L_clash_9 : decode c_L_clash 9 = .ok (.goto (6), 3) := by decide +kernel
theorem d_L_clash_12 : decode c_L_clash 12 = .ok (.astore_n 3, 1) := by decide +kernel
theorem d_L_clash_13 : decode c_L_clash 13 = .ok (.iconst 1, 1) := by decide +kernel
theorem d_L_clash_14 : decode c_L_clash 14 = .ok (.ireturn, 1) := by decide +kernel
theorem d_L_clash_15 : decode c_L_clash 15 = .ok (.iconst 0, 1) := by decide +kernel
theorem d_L_clash_16 : decode c_L_clash 16 = .ok (.ireturn, 1) := by decide +kernel
theorem d_L_take_0 : decode c_L_take 0 = .ok (.aload_n 2, 1) := by decide +kernel
theorem d_L_take_1 : decode c_L_take 1 = .ok (.iconst 0, 1) := by decide +kernel
theorem d_L_take_2 : decode c_L_take 2 = .ok (.aload_n 0, 1) := by decide +kernel
theorem d_L_take_3 : decode c_L_take 3 = .ok (.iload_n 1, 1) := by decide +kernel
theorem d_L_take_4 : decode c_L_take 4 = .ok (.invokevirtual 63, 3) := by decide +kernel
theorem d_L_take_7 : decode c_L_take 7 = .ok (.i2l, 1) := by decide +kernel
theorem d_L_take_8 : decode c_L_take 8 = .ok (.lastore, 1) := by decide +kernel
theorem d_L_take_9 : decode c_L_take 9 = .ok (.goto (12), 3) := by decide +kernel
theorem d_L_take_12 : decode c_L_take 12 = .ok (.astore_n 3, 1) := by decide +kernel
theorem d_L_take_13 : decode c_L_take 13 = .ok (.iconst 1, 1) := by decide +kernel
theorem d_L_take_14 : decode c_L_take 14 = .ok (.ireturn, 1) := by decide +kernel
theorem d_L_take_15 : decode c_L_take 15 = .ok (.astore_n 3, 1) := by decide +kernel
theorem d_L_take_16 : decode c_L_take 16 = .ok (.iconst 2, 1) := by decide +kernel
theorem d_L_take_17 : decode c_L_take 17 = .ok (.ireturn, 1) := by decide +kernel
theorem d_L_take_18 : decode c_L_take 18 = .ok (.astore_n 3, 1) := by decide +kernel
theorem d_L_take_19 : decode c_L_take 19 = .ok (.iconst 3, 1) := by decide +kernel
theorem d_L_take_20 : decode c_L_take 20 = .ok (.ireturn, 1) := by decide +kernel
theorem d_L_take_21 : decode c_L_take 21 = .ok (.iconst 0, 1) := by decide +kernel
theorem d_L_take_22 : decode c_L_take 22 = .ok (.ireturn, 1) := by decide +kernel
theorem d_L_stock_0 : decode c_L_stock 0 = .ok (.aload_n 2, 1) := by decide +kernel
theorem d_L_stock_1 : decode c_L_stock 1 = .ok (.iconst 0, 1) := by decide +kernel
theorem d_L_stock_2 : decode c_L_stock 2 = .ok (.aload_n 0, 1) := by decide +kernel
theorem d_L_stock_3 : decode c_L_stock 3 = .ok (.iload_n 1, 1) := by decide +kernel
theorem d_L_stock_4 : decode c_L_stock 4 = .ok (.invokevirtual 66, 3) := by decide +kernel
theorem d_L_stock_7 : decode c_L_stock 7 = .ok (.i2l, 1) := by decide +kernel
theorem d_L_stock_8 : decode c_L_stock 8 = .ok (.lastore, 1) := by decide +kernel
theorem d_L_stock_9 : decode c_L_stock 9 = .ok (.goto (6), 3) := by decide +kernel
theorem d_L_stock_12 : decode c_L_stock 12 = .ok (.astore_n 3, 1) := by decide +kernel
theorem d_L_stock_13 : decode c_L_stock 13 = .ok (.iconst 1, 1) := by decide +kernel
theorem d_L_stock_14 : decode c_L_stock 14 = .ok (.ireturn, 1) := by decide +kernel
theorem d_L_stock_15 : decode c_L_stock 15 = .ok (.iconst 0, 1) := by decide +kernel
theorem d_L_stock_16 : decode c_L_stock 16 = .ok (.ireturn, 1) := by decide +kernel
theorem d_L_law_0 : decode code 0 = .ok (.new 8, 3) := by decide +kernel
theorem d_L_law_3 : decode code 3 = .ok (.dup, 1) := by decide +kernel
theorem d_L_law_4 : decode code 4 = .ok (.invokespecial 69, 3) := by decide +kernel
theorem d_L_law_7 : decode code 7 = .ok (.astore_n 1, 1) := by decide +kernel
theorem d_L_law_8 : decode code 8 = .ok (.new 70, 3) := by decide +kernel
theorem d_L_law_11 : decode code 11 = .ok (.dup, 1) := by decide +kernel
theorem d_L_law_12 : decode code 12 = .ok (.invokespecial 72, 3) := by decide +kernel
theorem d_L_law_15 : decode code 15 = .ok (.astore_n 2, 1) := by decide +kernel
theorem d_L_law_16 : decode code 16 = .ok (.iconst 1, 1) := by decide +kernel
theorem d_L_law_17 : decode code 17 = .ok (.newarray .long, 2) := by decide +kernel
theorem d_L_law_19 : decode code 19 = .ok (.astore_n 3, 1) := by decide +kernel
theorem d_L_law_20 : decode code 20 = .ok (.iconst 0, 1) := by decide +kernel
theorem d_L_law_21 : decode code 21 = .ok (.istore 4, 2) := by decide +kernel
theorem d_L_law_23 : decode code 23 = .ok (.iload 4, 2) := by decide +kernel
theorem d_L_law_25 : decode code 25 = .ok (.aload_n 0, 1) := by decide +kernel
theorem d_L_law_26 : decode code 26 = .ok (.arraylength, 1) := by decide +kernel
theorem d_L_law_27 : decode code 27 = .ok (.iconst 5, 1) := by decide +kernel
theorem d_L_law_28 : decode code 28 = .ok (.isub, 1) := by decide +kernel
theorem d_L_law_29 : decode code 29 = .ok (.if_icmp .gt (1051), 3) := by decide +kernel
theorem d_L_law_32 : decode code 32 = .ok (.aload_n 0, 1) := by decide +kernel
theorem d_L_law_33 : decode code 33 = .ok (.iload 4, 2) := by decide +kernel
theorem d_L_law_35 : decode code 35 = .ok (.iaload, 1) := by decide +kernel
theorem d_L_law_36 : decode code 36 = .ok (.bipush (15), 2) := by decide +kernel
theorem d_L_law_38 : decode code 38 = .ok (.iand, 1) := by decide +kernel
theorem d_L_law_39 : decode code 39 = .ok (.tableswitch 1035 0 14 #[73, 153, 225, 273, 341, 409, 481, 529, 597, 653, 721, 812, 867, 923, 979], 73) := by decide +kernel
theorem d_L_law_112 : decode code 112 = .ok (.aload_n 1, 1) := by decide +kernel
theorem d_L_law_113 : decode code 113 = .ok (.aload_n 0, 1) := by decide +kernel
theorem d_L_law_114 : decode code 114 = .ok (.iload 4, 2) := by decide +kernel
theorem d_L_law_116 : decode code 116 = .ok (.iconst 1, 1) := by decide +kernel
theorem d_L_law_117 : decode code 117 = .ok (.iadd, 1) := by decide +kernel
theorem d_L_law_118 : decode code 118 = .ok (.iaload, 1) := by decide +kernel
theorem d_L_law_119 : decode code 119 = .ok (.aload_n 0, 1) := by decide +kernel
theorem d_L_law_120 : decode code 120 = .ok (.iload 4, 2) := by decide +kernel
theorem d_L_law_122 : decode code 122 = .ok (.iconst 2, 1) := by decide +kernel
theorem d_L_law_123 : decode code 123 = .ok (.iadd, 1) := by decide +kernel
theorem d_L_law_124 : decode code 124 = .ok (.iaload, 1) := by decide +kernel
theorem d_L_law_125 : decode code 125 = .ok (.aload_n 0, 1) := by decide +kernel
theorem d_L_law_126 : decode code 126 = .ok (.iload 4, 2) := by decide +kernel
theorem d_L_law_128 : decode code 128 = .ok (.iconst 3, 1) := by decide +kernel
theorem d_L_law_129 : decode code 129 = .ok (.iadd, 1) := by decide +kernel
theorem d_L_law_130 : decode code 130 = .ok (.iaload, 1) := by decide +kernel
theorem d_L_law_131 : decode code 131 = .ok (.aload_n 3, 1) := by decide +kernel
theorem d_L_law_132 : decode code 132 = .ok (.invokestatic 73, 3) := by decide +kernel
theorem d_L_law_135 : decode code 135 = .ok (.istore 5, 2) := by decide +kernel
theorem d_L_law_137 : decode code 137 = .ok (.aload_n 2, 1) := by decide +kernel
theorem d_L_law_138 : decode code 138 = .ok (.aload_n 0, 1) := by decide +kernel
theorem d_L_law_139 : decode code 139 = .ok (.iload 4, 2) := by decide +kernel
theorem d_L_law_141 : decode code 141 = .ok (.iconst 1, 1) := by decide +kernel
theorem d_L_law_142 : decode code 142 = .ok (.iadd, 1) := by decide +kernel
theorem d_L_law_143 : decode code 143 = .ok (.iaload, 1) := by decide +kernel
theorem d_L_law_144 : decode code 144 = .ok (.aload_n 0, 1) := by decide +kernel
theorem d_L_law_145 : decode code 145 = .ok (.iload 4, 2) := by decide +kernel
theorem d_L_law_147 : decode code 147 = .ok (.iconst 2, 1) := by decide +kernel
theorem d_L_law_148 : decode code 148 = .ok (.iadd, 1) := by decide +kernel
theorem d_L_law_149 : decode code 149 = .ok (.iaload, 1) := by decide +kernel
theorem d_L_law_150 : decode code 150 = .ok (.aload_n 0, 1) := by decide +kernel
theorem d_L_law_151 : decode code 151 = .ok (.iload 4, 2) := by decide +kernel
theorem d_L_law_153 : decode code 153 = .ok (.iconst 3, 1) := by decide +kernel
theorem d_L_law_154 : decode code 154 = .ok (.iadd, 1) := by decide +kernel
theorem d_L_law_155 : decode code 155 = .ok (.iaload, 1) := by decide +kernel
theorem d_L_law_156 : decode code 156 = .ok (.invokevirtual 78, 3) := by decide +kernel
theorem d_L_law_159 : decode code 159 = .ok (.istore 6, 2) := by decide +kernel
theorem d_L_law_161 : decode code 161 = .ok (.aload_n 2, 1) := by decide +kernel
theorem d_L_law_162 : decode code 162 = .ok (.invokevirtual 79, 3) := by decide +kernel
theorem d_L_law_165 : decode code 165 = .ok (.iload 5, 2) := by decide +kernel
theorem d_L_law_167 : decode code 167 = .ok (.if_icmp .eq (5), 3) := by decide +kernel
theorem d_L_law_170 : decode code 170 = .ok (.iconst 0, 1) := by decide +kernel
theorem d_L_law_171 : decode code 171 = .ok (.ireturn, 1) := by decide +kernel
theorem d_L_law_172 : decode code 172 = .ok (.iload 5, 2) := by decide +kernel
theorem d_L_law_174 : decode code 174 = .ok (.ifCond .ne (15), 3) := by decide +kernel
theorem d_L_law_177 : decode code 177 = .ok (.aload_n 3, 1) := by decide +kernel
theorem d_L_law_178 : decode code 178 = .ok (.iconst 0, 1) := by decide +kernel
theorem d_L_law_179 : decode code 179 = .ok (.laload, 1) := by decide +kernel
theorem d_L_law_180 : decode code 180 = .ok (.iload 6, 2) := by decide +kernel
theorem d_L_law_182 : decode code 182 = .ok (.i2l, 1) := by decide +kernel
theorem d_L_law_183 : decode code 183 = .ok (.lcmp, 1) := by decide +kernel
theorem d_L_law_184 : decode code 184 = .ok (.ifCond .eq (5), 3) := by decide +kernel
theorem d_L_law_187 : decode code 187 = .ok (.iconst 0, 1) := by decide +kernel
theorem d_L_law_188 : decode code 188 = .ok (.ireturn, 1) := by decide +kernel
theorem d_L_law_189 : decode code 189 = .ok (.goto (885), 3) := by decide +kernel
theorem d_L_law_192 : decode code 192 = .ok (.aload_n 1, 1) := by decide +kernel
theorem d_L_law_193 : decode code 193 = .ok (.aload_n 0, 1) := by decide +kernel
theorem d_L_law_194 : decode code 194 = .ok (.iload 4, 2) := by decide +kernel
theorem d_L_law_196 : decode code 196 = .ok (.iconst 1, 1) := by decide +kernel
theorem d_L_law_197 : decode code 197 = .ok (.iadd, 1) := by decide +kernel
theorem d_L_law_198 : decode code 198 = .ok (.iaload, 1) := by decide +kernel
theorem d_L_law_199 : decode code 199 = .ok (.aload_n 0, 1) := by decide +kernel
theorem d_L_law_200 : decode code 200 = .ok (.iload 4, 2) := by decide +kernel
theorem d_L_law_202 : decode code 202 = .ok (.iconst 2, 1) := by decide +kernel
theorem d_L_law_203 : decode code 203 = .ok (.iadd, 1) := by decide +kernel
theorem d_L_law_204 : decode code 204 = .ok (.iaload, 1) := by decide +kernel
theorem d_L_law_205 : decode code 205 = .ok (.aload_n 0, 1) := by decide +kernel
theorem d_L_law_206 : decode code 206 = .ok (.iload 4, 2) := by decide +kernel
theorem d_L_law_208 : decode code 208 = .ok (.iconst 3, 1) := by decide +kernel
theorem d_L_law_209 : decode code 209 = .ok (.iadd, 1) := by decide +kernel
theorem d_L_law_210 : decode code 210 = .ok (.iaload, 1) := by decide +kernel
theorem d_L_law_211 : decode code 211 = .ok (.aload_n 0, 1) := by decide +kernel
theorem d_L_law_212 : decode code 212 = .ok (.iload 4, 2) := by decide +kernel
theorem d_L_law_214 : decode code 214 = .ok (.iconst 4, 1) := by decide +kernel
theorem d_L_law_215 : decode code 215 = .ok (.iadd, 1) := by decide +kernel
theorem d_L_law_216 : decode code 216 = .ok (.iaload, 1) := by decide +kernel
theorem d_L_law_217 : decode code 217 = .ok (.invokestatic 83, 3) := by decide +kernel
theorem d_L_law_220 : decode code 220 = .ok (.istore 5, 2) := by decide +kernel
theorem d_L_law_222 : decode code 222 = .ok (.aload_n 2, 1) := by decide +kernel
theorem d_L_law_223 : decode code 223 = .ok (.aload_n 0, 1) := by decide +kernel
theorem d_L_law_224 : decode code 224 = .ok (.iload 4, 2) := by decide +kernel
theorem d_L_law_226 : decode code 226 = .ok (.iconst 1, 1) := by decide +kernel
theorem d_L_law_227 : decode code 227 = .ok (.iadd, 1) := by decide +kernel
theorem d_L_law_228 : decode code 228 = .ok (.iaload, 1) := by decide +kernel
theorem d_L_law_229 : decode code 229 = .ok (.aload_n 0, 1) := by decide +kernel
theorem d_L_law_230 : decode code 230 = .ok (.iload 4, 2) := by decide +kernel
theorem d_L_law_232 : decode code 232 = .ok (.iconst 2, 1) := by decide +kernel
theorem d_L_law_233 : decode code 233 = .ok (.iadd, 1) := by decide +kernel
theorem d_L_law_234 : decode code 234 = .ok (.iaload, 1) := by decide +kernel
theorem d_L_law_235 : decode code 235 = .ok (.aload_n 0, 1) := by decide +kernel
theorem d_L_law_236 : decode code 236 = .ok (.iload 4, 2) := by decide +kernel
theorem d_L_law_238 : decode code 238 = .ok (.iconst 3, 1) := by decide +kernel
theorem d_L_law_239 : decode code 239 = .ok (.iadd, 1) := by decide +kernel
theorem d_L_law_240 : decode code 240 = .ok (.iaload, 1) := by decide +kernel
theorem d_L_law_241 : decode code 241 = .ok (.aload_n 0, 1) := by decide +kernel
theorem d_L_law_242 : decode code 242 = .ok (.iload 4, 2) := by decide +kernel
theorem d_L_law_244 : decode code 244 = .ok (.iconst 4, 1) := by decide +kernel
theorem d_L_law_245 : decode code 245 = .ok (.iadd, 1) := by decide +kernel
theorem d_L_law_246 : decode code 246 = .ok (.iaload, 1) := by decide +kernel
theorem d_L_law_247 : decode code 247 = .ok (.invokevirtual 86, 3) := by decide +kernel
theorem d_L_law_250 : decode code 250 = .ok (.aload_n 2, 1) := by decide +kernel
theorem d_L_law_251 : decode code 251 = .ok (.invokevirtual 79, 3) := by decide +kernel
theorem d_L_law_254 : decode code 254 = .ok (.iload 5, 2) := by decide +kernel
theorem d_L_law_256 : decode code 256 = .ok (.if_icmp .eq (5), 3) := by decide +kernel
theorem d_L_law_259 : decode code 259 = .ok (.iconst 0, 1) := by decide +kernel
theorem d_L_law_260 : decode code 260 = .ok (.ireturn, 1) := by decide +kernel
theorem d_L_law_261 : decode code 261 = .ok (.goto (813), 3) := by decide +kernel
theorem d_L_law_264 : decode code 264 = .ok (.aload_n 1, 1) := by decide +kernel
theorem d_L_law_265 : decode code 265 = .ok (.aload_n 0, 1) := by decide +kernel
theorem d_L_law_266 : decode code 266 = .ok (.iload 4, 2) := by decide +kernel
theorem d_L_law_268 : decode code 268 = .ok (.iconst 1, 1) := by decide +kernel
theorem d_L_law_269 : decode code 269 = .ok (.iadd, 1) := by decide +kernel
theorem d_L_law_270 : decode code 270 = .ok (.iaload, 1) := by decide +kernel
theorem d_L_law_271 : decode code 271 = .ok (.aload_n 0, 1) := by decide +kernel
theorem d_L_law_272 : decode code 272 = .ok (.iload 4, 2) := by decide +kernel
theorem d_L_law_274 : decode code 274 = .ok (.iconst 2, 1) := by decide +kernel
theorem d_L_law_275 : decode code 275 = .ok (.iadd, 1) := by decide +kernel
theorem d_L_law_276 : decode code 276 = .ok (.iaload, 1) := by decide +kernel
theorem d_L_law_277 : decode code 277 = .ok (.invokestatic 87, 3) := by decide +kernel
theorem d_L_law_280 : decode code 280 = .ok (.istore 5, 2) := by decide +kernel
theorem d_L_law_282 : decode code 282 = .ok (.aload_n 2, 1) := by decide +kernel
theorem d_L_law_283 : decode code 283 = .ok (.aload_n 0, 1) := by decide +kernel
theorem d_L_law_284 : decode code 284 = .ok (.iload 4, 2) := by decide +kernel
theorem d_L_law_286 : decode code 286 = .ok (.iconst 1, 1) := by decide +kernel
theorem d_L_law_287 : decode code 287 = .ok (.iadd, 1) := by decide +kernel
theorem d_L_law_288 : decode code 288 = .ok (.iaload, 1) := by decide +kernel
theorem d_L_law_289 : decode code 289 = .ok (.aload_n 0, 1) := by decide +kernel
theorem d_L_law_290 : decode code 290 = .ok (.iload 4, 2) := by decide +kernel
theorem d_L_law_292 : decode code 292 = .ok (.iconst 2, 1) := by decide +kernel
theorem d_L_law_293 : decode code 293 = .ok (.iadd, 1) := by decide +kernel
theorem d_L_law_294 : decode code 294 = .ok (.iaload, 1) := by decide +kernel
theorem d_L_law_295 : decode code 295 = .ok (.invokevirtual 90, 3) := by decide +kernel
theorem d_L_law_298 : decode code 298 = .ok (.aload_n 2, 1) := by decide +kernel
