theorem i_CP : ∀ w ∈ u_ws R_CP F_CP 4, w ∈ tk_tbl := tk_all (by decide +kernel) (by decide +kernel)
theorem p_CP_0 : tk_FP 0 0 (.object "ChargePlans$Goods") true := ⟨R_CP, F_CP, 4, t_CP, rfl, t_CP_ok, n_CP, rfl, by decide +kernel, rfl⟩
theorem p_CP_1 : tk_FP 0 1 (.object "ChargePlans$Heats") true := ⟨R_CP, F_CP, 4, t_CP, rfl, t_CP_ok, n_CP, rfl, by decide +kernel, rfl⟩
theorem p_CP_2 : tk_FP 0 2 (.object "ChargePlans$Planning") true := ⟨R_CP, F_CP, 4, t_CP, rfl, t_CP_ok, n_CP, rfl, by decide +kernel, rfl⟩
theorem p_CP_3 : tk_FP 0 3 (.object "ChargePlans$Clashing") true := ⟨R_CP, F_CP, 4, t_CP, rfl, t_CP_ok, n_CP, rfl, by decide +kernel, rfl⟩
theorem i_G : ∀ w ∈ u_ws R_G F_G 7, w ∈ tk_tbl := tk_all (by decide +kernel) (by decide +kernel)
theorem p_G_0 : tk_FP 1 0 (.int) false := ⟨R_G, F_G, 7, t_G, rfl, t_G_ok, n_G, rfl, by decide +kernel, rfl⟩
theorem p_G_1 : tk_FP 1 1 (.array .int) true := ⟨R_G, F_G, 7, t_G, rfl, t_G_ok, n_G, rfl, by decide +kernel, rfl⟩
theorem p_G_2 : tk_FP 1 2 (.array .int) true := ⟨R_G, F_G, 7, t_G, rfl, t_G_ok, n_G, rfl, by decide +kernel, rfl⟩
theorem p_G_3 : tk_FP 1 3 (.array .int) true := ⟨R_G, F_G, 7, t_G, rfl, t_G_ok, n_G, rfl, by decide +kernel, rfl⟩
theorem p_G_4 : tk_FP 1 4 (.array .int) true := ⟨R_G, F_G, 7, t_G, rfl, t_G_ok, n_G, rfl, by decide +kernel, rfl⟩
theorem p_G_5 : tk_FP 1 5 (.array .int) true := ⟨R_G, F_G, 7, t_G, rfl, t_G_ok, n_G, rfl, by decide +kernel, rfl⟩
theorem p_G_6 : tk_FP 1 6 (.array .int) true := ⟨R_G, F_G, 7, t_G, rfl, t_G_ok, n_G, rfl, by decide +kernel, rfl⟩
theorem i_H : ∀ w ∈ u_ws R_H F_H 8, w ∈ tk_tbl := tk_all (by decide +kernel) (by decide +kernel)
theorem p_H_0 : tk_FP 2 0 (.int) false := ⟨R_H, F_H, 8, t_H, rfl, t_H_ok, n_H, rfl, by decide +kernel, rfl⟩
theorem p_H_1 : tk_FP 2 1 (.array .int) true := ⟨R_H, F_H, 8, t_H, rfl, t_H_ok, n_H, rfl, by decide +kernel, rfl⟩
theorem p_H_2 : tk_FP 2 2 (.array .int) true := ⟨R_H, F_H, 8, t_H, rfl, t_H_ok, n_H, rfl, by decide +kernel, rfl⟩
theorem p_H_3 : tk_FP 2 3 (.array .int) true := ⟨R_H, F_H, 8, t_H, rfl, t_H_ok, n_H, rfl, by decide +kernel, rfl⟩
theorem p_H_4 : tk_FP 2 4 (.array .int) true := ⟨R_H, F_H, 8, t_H, rfl, t_H_ok, n_H, rfl, by decide +kernel, rfl⟩
theorem p_H_5 : tk_FP 2 5 (.array .int) true := ⟨R_H, F_H, 8, t_H, rfl, t_H_ok, n_H, rfl, by decide +kernel, rfl⟩
theorem p_H_6 : tk_FP 2 6 (.array .int) true := ⟨R_H, F_H, 8, t_H, rfl, t_H_ok, n_H, rfl, by decide +kernel, rfl⟩
theorem p_H_7 : tk_FP 2 7 (.array .int) true := ⟨R_H, F_H, 8, t_H, rfl, t_H_ok, n_H, rfl, by decide +kernel, rfl⟩
theorem i_P : ∀ w ∈ u_ws R_P F_P 8, w ∈ tk_tbl := tk_all (by decide +kernel) (by decide +kernel)
theorem p_P_0 : tk_FP 3 0 (.object "ChargePlans$Sums") true := ⟨R_P, F_P, 8, t_P, rfl, t_P_ok, n_P, rfl, by decide +kernel, rfl⟩
theorem p_P_1 : tk_FP 3 1 (.array .int) true := ⟨R_P, F_P, 8, t_P, rfl, t_P_ok, n_P, rfl, by decide +kernel, rfl⟩
theorem p_P_2 : tk_FP 3 2 (.array .int) true := ⟨R_P, F_P, 8, t_P, rfl, t_P_ok, n_P, rfl, by decide +kernel, rfl⟩
theorem p_P_3 : tk_FP 3 3 (.int) false := ⟨R_P, F_P, 8, t_P, rfl, t_P_ok, n_P, rfl, by decide +kernel, rfl⟩
theorem p_P_4 : tk_FP 3 4 (.int) false := ⟨R_P, F_P, 8, t_P, rfl, t_P_ok, n_P, rfl, by decide +kernel, rfl⟩
theorem p_P_5 : tk_FP 3 5 (.int) false := ⟨R_P, F_P, 8, t_P, rfl, t_P_ok, n_P, rfl, by decide +kernel, rfl⟩
theorem p_P_6 : tk_FP 3 6 (.boolean) false := ⟨R_P, F_P, 8, t_P, rfl, t_P_ok, n_P, rfl, by decide +kernel, rfl⟩
theorem p_P_7 : tk_FP 3 7 (.boolean) false := ⟨R_P, F_P, 8, t_P, rfl, t_P_ok, n_P, rfl, by decide +kernel, rfl⟩
theorem i_S : ∀ w ∈ u_ws R_S F_S 4, w ∈ tk_tbl := tk_all (by decide +kernel) (by decide +kernel)
theorem p_S_0 : tk_FP 4 0 (.int) false := ⟨R_S, F_S, 4, t_S, rfl, t_S_ok, n_S, rfl, by decide +kernel, rfl⟩
theorem p_S_1 : tk_FP 4 1 (.array .int) true := ⟨R_S, F_S, 4, t_S, rfl, t_S_ok, n_S, rfl, by decide +kernel, rfl⟩
theorem p_S_2 : tk_FP 4 2 (.array .int) true := ⟨R_S, F_S, 4, t_S, rfl, t_S_ok, n_S, rfl, by decide +kernel, rfl⟩
theorem p_S_3 : tk_FP 4 3 (.array .int) true := ⟨R_S, F_S, 4, t_S, rfl, t_S_ok, n_S, rfl, by decide +kernel, rfl⟩
theorem i_C : ∀ w ∈ u_ws R_C F_C 3, w ∈ tk_tbl := tk_all (by decide +kernel) (by decide +kernel)
theorem p_C_0 : tk_FP 5 0 (.object "ChargePlans$Sums") true := ⟨R_C, F_C, 3, t_C, rfl, t_C_ok, n_C, rfl, by decide +kernel, rfl⟩
theorem p_C_1 : tk_FP 5 1 (.array .long) true := ⟨R_C, F_C, 3, t_C, rfl, t_C_ok, n_C, rfl, by decide +kernel, rfl⟩
theorem p_C_2 : tk_FP 5 2 (.boolean) false := ⟨R_C, F_C, 3, t_C, rfl, t_C_ok, n_C, rfl, by decide +kernel, rfl⟩
theorem i_M : ∀ w ∈ u_ws R_M F_M 21, w ∈ tk_tbl := tk_all (by decide +kernel) (by decide +kernel)
theorem p_M_0 : tk_FP 6 0 (.int) false := ⟨R_M, F_M, 21, t_M, rfl, t_M_ok, n_M, rfl, by decide +kernel, rfl⟩
theorem p_M_1 : tk_FP 6 1 (.int) false := ⟨R_M, F_M, 21, t_M, rfl, t_M_ok, n_M, rfl, by decide +kernel, rfl⟩
theorem p_M_2 : tk_FP 6 2 (.array .int) true := ⟨R_M, F_M, 21, t_M, rfl, t_M_ok, n_M, rfl, by decide +kernel, rfl⟩
theorem p_M_3 : tk_FP 6 3 (.array .int) true := ⟨R_M, F_M, 21, t_M, rfl, t_M_ok, n_M, rfl, by decide +kernel, rfl⟩
theorem p_M_4 : tk_FP 6 4 (.array .int) true := ⟨R_M, F_M, 21, t_M, rfl, t_M_ok, n_M, rfl, by decide +kernel, rfl⟩
theorem p_M_5 : tk_FP 6 5 (.array .int) true := ⟨R_M, F_M, 21, t_M, rfl, t_M_ok, n_M, rfl, by decide +kernel, rfl⟩
theorem p_M_6 : tk_FP 6 6 (.array .int) true := ⟨R_M, F_M, 21, t_M, rfl, t_M_ok, n_M, rfl, by decide +kernel, rfl⟩
theorem p_M_7 : tk_FP 6 7 (.array .int) true := ⟨R_M, F_M, 21, t_M, rfl, t_M_ok, n_M, rfl, by decide +kernel, rfl⟩
theorem p_M_8 : tk_FP 6 8 (.int) false := ⟨R_M, F_M, 21, t_M, rfl, t_M_ok, n_M, rfl, by decide +kernel, rfl⟩
theorem p_M_9 : tk_FP 6 9 (.array .int) true := ⟨R_M, F_M, 21, t_M, rfl, t_M_ok, n_M, rfl, by decide +kernel, rfl⟩
theorem p_M_10 : tk_FP 6 10 (.array .int) true := ⟨R_M, F_M, 21, t_M, rfl, t_M_ok, n_M, rfl, by decide +kernel, rfl⟩
theorem p_M_11 : tk_FP 6 11 (.array .int) true := ⟨R_M, F_M, 21, t_M, rfl, t_M_ok, n_M, rfl, by decide +kernel, rfl⟩
theorem p_M_12 : tk_FP 6 12 (.array .int) true := ⟨R_M, F_M, 21, t_M, rfl, t_M_ok, n_M, rfl, by decide +kernel, rfl⟩
theorem p_M_13 : tk_FP 6 13 (.array .int) true := ⟨R_M, F_M, 21, t_M, rfl, t_M_ok, n_M, rfl, by decide +kernel, rfl⟩
theorem p_M_14 : tk_FP 6 14 (.array .int) true := ⟨R_M, F_M, 21, t_M, rfl, t_M_ok, n_M, rfl, by decide +kernel, rfl⟩
theorem p_M_15 : tk_FP 6 15 (.array .int) true := ⟨R_M, F_M, 21, t_M, rfl, t_M_ok, n_M, rfl, by decide +kernel, rfl⟩
theorem p_M_16 : tk_FP 6 16 (.boolean) false := ⟨R_M, F_M, 21, t_M, rfl, t_M_ok, n_M, rfl, by decide +kernel, rfl⟩
theorem p_M_17 : tk_FP 6 17 (.boolean) false := ⟨R_M, F_M, 21, t_M, rfl, t_M_ok, n_M, rfl, by decide +kernel, rfl⟩
theorem p_M_18 : tk_FP 6 18 (.int) false := ⟨R_M, F_M, 21, t_M, rfl, t_M_ok, n_M, rfl, by decide +kernel, rfl⟩
theorem p_M_19 : tk_FP 6 19 (.array .int) true := ⟨R_M, F_M, 21, t_M, rfl, t_M_ok, n_M, rfl, by decide +kernel, rfl⟩
theorem p_M_20 : tk_FP 6 20 (.array .boolean) true := ⟨R_M, F_M, 21, t_M, rfl, t_M_ok, n_M, rfl, by decide +kernel, rfl⟩
theorem f_G_30 : tk_F "ChargePlans$Goods" 30 1 0 := ⟨R_G, F_G, 7, rfl, by decide, i_G, Or.inl (tk_at 30 (by decide +kernel) (by decide +kernel))⟩
theorem g_G_30 : tk_FF "ChargePlans$Goods" 30 1 0 := ⟨R_G, F_G, 7, rfl, by decide, i_G, tk_at 30 (by decide +kernel) (by decide +kernel), rfl⟩
theorem f_S_21 : tk_F "ChargePlans$Sums" 21 1 0 := ⟨R_G, F_G, 7, rfl, by decide, i_G, Or.inr ⟨"ChargePlans", tk_at 31 (by decide +kernel) (by decide +kernel)⟩⟩
theorem f_CP_37 : tk_F "ChargePlans" 37 1 0 := ⟨R_G, F_G, 7, rfl, by decide, i_G, Or.inr ⟨"ChargePlans", tk_at 32 (by decide +kernel) (by decide +kernel)⟩⟩
theorem f_G_9 : tk_F "ChargePlans$Goods" 9 1 1 := ⟨R_G, F_G, 7, rfl, by decide, i_G, Or.inl (tk_at 33 (by decide +kernel) (by decide +kernel))⟩
theorem g_G_9 : tk_FF "ChargePlans$Goods" 9 1 1 := ⟨R_G, F_G, 7, rfl, by decide, i_G, tk_at 33 (by decide +kernel) (by decide +kernel), rfl⟩
theorem f_S_44 : tk_F "ChargePlans$Sums" 44 1 1 := ⟨R_G, F_G, 7, rfl, by decide, i_G, Or.inr ⟨"ChargePlans", tk_at 34 (by decide +kernel) (by decide +kernel)⟩⟩
theorem f_CP_135 : tk_F "ChargePlans" 135 1 1 := ⟨R_G, F_G, 7, rfl, by decide, i_G, Or.inr ⟨"ChargePlans", tk_at 35 (by decide +kernel) (by decide +kernel)⟩⟩
theorem f_G_15 : tk_F "ChargePlans$Goods" 15 1 2 := ⟨R_G, F_G, 7, rfl, by decide, i_G, Or.inl (tk_at 36 (by decide +kernel) (by decide +kernel))⟩
theorem g_G_15 : tk_FF "ChargePlans$Goods" 15 1 2 := ⟨R_G, F_G, 7, rfl, by decide, i_G, tk_at 36 (by decide +kernel) (by decide +kernel), rfl⟩
theorem f_S_47 : tk_F "ChargePlans$Sums" 47 1 2 := ⟨R_G, F_G, 7, rfl, by decide, i_G, Or.inr ⟨"ChargePlans", tk_at 37 (by decide +kernel) (by decide +kernel)⟩⟩
theorem f_CP_145 : tk_F "ChargePlans" 145 1 2 := ⟨R_G, F_G, 7, rfl, by decide, i_G, Or.inr ⟨"ChargePlans", tk_at 38 (by decide +kernel) (by decide +kernel)⟩⟩
theorem f_G_18 : tk_F "ChargePlans$Goods" 18 1 3 := ⟨R_G, F_G, 7, rfl, by decide, i_G, Or.inl (tk_at 39 (by decide +kernel) (by decide +kernel))⟩
theorem g_G_18 : tk_FF "ChargePlans$Goods" 18 1 3 := ⟨R_G, F_G, 7, rfl, by decide, i_G, tk_at 39 (by decide +kernel) (by decide +kernel), rfl⟩
theorem f_CP_75 : tk_F "ChargePlans" 75 1 3 := ⟨R_G, F_G, 7, rfl, by decide, i_G, Or.inr ⟨"ChargePlans", tk_at 40 (by decide +kernel) (by decide +kernel)⟩⟩
theorem f_G_21 : tk_F "ChargePlans$Goods" 21 1 4 := ⟨R_G, F_G, 7, rfl, by decide, i_G, Or.inl (tk_at 41 (by decide +kernel) (by decide +kernel))⟩
theorem g_G_21 : tk_FF "ChargePlans$Goods" 21 1 4 := ⟨R_G, F_G, 7, rfl, by decide, i_G, tk_at 41 (by decide +kernel) (by decide +kernel), rfl⟩
theorem f_CP_69 : tk_F "ChargePlans" 69 1 4 := ⟨R_G, F_G, 7, rfl, by decide, i_G, Or.inr ⟨"ChargePlans", tk_at 42 (by decide +kernel) (by decide +kernel)⟩⟩
theorem f_G_24 : tk_F "ChargePlans$Goods" 24 1 5 := ⟨R_G, F_G, 7, rfl, by decide, i_G, Or.inl (tk_at 43 (by decide +kernel) (by decide +kernel))⟩
theorem g_G_24 : tk_FF "ChargePlans$Goods" 24 1 5 := ⟨R_G, F_G, 7, rfl, by decide, i_G, tk_at 43 (by decide +kernel) (by decide +kernel), rfl⟩
theorem f_CP_62 : tk_F "ChargePlans" 62 1 5 := ⟨R_G, F_G, 7, rfl, by decide, i_G, Or.inr ⟨"ChargePlans", tk_at 44 (by decide +kernel) (by decide +kernel)⟩⟩
theorem f_S_61 : tk_F "ChargePlans$Sums" 61 1 5 := ⟨R_G, F_G, 7, rfl, by decide, i_G, Or.inr ⟨"ChargePlans", tk_at 45 (by decide +kernel) (by decide +kernel)⟩⟩
theorem f_G_27 : tk_F "ChargePlans$Goods" 27 1 6 := ⟨R_G, F_G, 7, rfl, by decide, i_G, Or.inl (tk_at 46 (by decide +kernel) (by decide +kernel))⟩
theorem g_G_27 : tk_FF "ChargePlans$Goods" 27 1 6 := ⟨R_G, F_G, 7, rfl, by decide, i_G, tk_at 46 (by decide +kernel) (by decide +kernel), rfl⟩
theorem f_CP_66 : tk_F "ChargePlans" 66 1 6 := ⟨R_G, F_G, 7, rfl, by decide, i_G, Or.inr ⟨"ChargePlans", tk_at 47 (by decide +kernel) (by decide +kernel)⟩⟩
theorem f_S_54 : tk_F "ChargePlans$Sums" 54 1 6 := ⟨R_G, F_G, 7, rfl, by decide, i_G, Or.inr ⟨"ChargePlans", tk_at 48 (by decide +kernel) (by decide +kernel)⟩⟩
theorem f_H_33 : tk_F "ChargePlans$Heats" 33 2 0 := ⟨R_H, F_H, 8, rfl, by decide, i_H, Or.inl (tk_at 71 (by decide +kernel) (by decide +kernel))⟩
theorem g_H_33 : tk_FF "ChargePlans$Heats" 33 2 0 := ⟨R_H, F_H, 8, rfl, by decide, i_H, tk_at 71 (by decide +kernel) (by decide +kernel), rfl⟩
theorem f_CP_81 : tk_F "ChargePlans" 81 2 0 := ⟨R_H, F_H, 8, rfl, by decide, i_H, Or.inr ⟨"ChargePlans", tk_at 72 (by decide +kernel) (by decide +kernel)⟩⟩
theorem f_H_9 : tk_F "ChargePlans$Heats" 9 2 1 := ⟨R_H, F_H, 8, rfl, by decide, i_H, Or.inl (tk_at 73 (by decide +kernel) (by decide +kernel))⟩
theorem g_H_9 : tk_FF "ChargePlans$Heats" 9 2 1 := ⟨R_H, F_H, 8, rfl, by decide, i_H, tk_at 73 (by decide +kernel) (by decide +kernel), rfl⟩
theorem f_S_30 : tk_F "ChargePlans$Sums" 30 2 1 := ⟨R_H, F_H, 8, rfl, by decide, i_H, Or.inr ⟨"ChargePlans", tk_at 74 (by decide +kernel) (by decide +kernel)⟩⟩
theorem f_CP_142 : tk_F "ChargePlans" 142 2 1 := ⟨R_H, F_H, 8, rfl, by decide, i_H, Or.inr ⟨"ChargePlans", tk_at 75 (by decide +kernel) (by decide +kernel)⟩⟩
theorem f_H_15 : tk_F "ChargePlans$Heats" 15 2 2 := ⟨R_H, F_H, 8, rfl, by decide, i_H, Or.inl (tk_at 76 (by decide +kernel) (by decide +kernel))⟩
theorem g_H_15 : tk_FF "ChargePlans$Heats" 15 2 2 := ⟨R_H, F_H, 8, rfl, by decide, i_H, tk_at 76 (by decide +kernel) (by decide +kernel), rfl⟩
theorem f_S_35 : tk_F "ChargePlans$Sums" 35 2 2 := ⟨R_H, F_H, 8, rfl, by decide, i_H, Or.inr ⟨"ChargePlans", tk_at 77 (by decide +kernel) (by decide +kernel)⟩⟩
theorem f_H_18 : tk_F "ChargePlans$Heats" 18 2 3 := ⟨R_H, F_H, 8, rfl, by decide, i_H, Or.inl (tk_at 78 (by decide +kernel) (by decide +kernel))⟩
theorem g_H_18 : tk_FF "ChargePlans$Heats" 18 2 3 := ⟨R_H, F_H, 8, rfl, by decide, i_H, tk_at 78 (by decide +kernel) (by decide +kernel), rfl⟩
theorem f_S_58 : tk_F "ChargePlans$Sums" 58 2 3 := ⟨R_H, F_H, 8, rfl, by decide, i_H, Or.inr ⟨"ChargePlans", tk_at 79 (by decide +kernel) (by decide +kernel)⟩⟩
theorem f_CP_85 : tk_F "ChargePlans" 85 2 3 := ⟨R_H, F_H, 8, rfl, by decide, i_H, Or.inr ⟨"ChargePlans", tk_at 80 (by decide +kernel) (by decide +kernel)⟩⟩
theorem f_H_21 : tk_F "ChargePlans$Heats" 21 2 4 := ⟨R_H, F_H, 8, rfl, by decide, i_H, Or.inl (tk_at 81 (by decide +kernel) (by decide +kernel))⟩
theorem g_H_21 : tk_FF "ChargePlans$Heats" 21 2 4 := ⟨R_H, F_H, 8, rfl, by decide, i_H, tk_at 81 (by decide +kernel) (by decide +kernel), rfl⟩
theorem f_S_57 : tk_F "ChargePlans$Sums" 57 2 4 := ⟨R_H, F_H, 8, rfl, by decide, i_H, Or.inr ⟨"ChargePlans", tk_at 82 (by decide +kernel) (by decide +kernel)⟩⟩
theorem f_CP_86 : tk_F "ChargePlans" 86 2 4 := ⟨R_H, F_H, 8, rfl, by decide, i_H, Or.inr ⟨"ChargePlans", tk_at 83 (by decide +kernel) (by decide +kernel)⟩⟩
theorem f_H_24 : tk_F "ChargePlans$Heats" 24 2 5 := ⟨R_H, F_H, 8, rfl, by decide, i_H, Or.inl (tk_at 84 (by decide +kernel) (by decide +kernel))⟩
theorem g_H_24 : tk_FF "ChargePlans$Heats" 24 2 5 := ⟨R_H, F_H, 8, rfl, by decide, i_H, tk_at 84 (by decide +kernel) (by decide +kernel), rfl⟩
theorem f_S_38 : tk_F "ChargePlans$Sums" 38 2 5 := ⟨R_H, F_H, 8, rfl, by decide, i_H, Or.inr ⟨"ChargePlans", tk_at 85 (by decide +kernel) (by decide +kernel)⟩⟩
theorem f_CP_87 : tk_F "ChargePlans" 87 2 5 := ⟨R_H, F_H, 8, rfl, by decide, i_H, Or.inr ⟨"ChargePlans", tk_at 86 (by decide +kernel) (by decide +kernel)⟩⟩
theorem f_H_27 : tk_F "ChargePlans$Heats" 27 2 6 := ⟨R_H, F_H, 8, rfl, by decide, i_H, Or.inl (tk_at 87 (by decide +kernel) (by decide +kernel))⟩
theorem g_H_27 : tk_FF "ChargePlans$Heats" 27 2 6 := ⟨R_H, F_H, 8, rfl, by decide, i_H, tk_at 87 (by decide +kernel) (by decide +kernel), rfl⟩
theorem f_CP_160 : tk_F "ChargePlans" 160 2 6 := ⟨R_H, F_H, 8, rfl, by decide, i_H, Or.inr ⟨"ChargePlans", tk_at 88 (by decide +kernel) (by decide +kernel)⟩⟩
theorem f_H_30 : tk_F "ChargePlans$Heats" 30 2 7 := ⟨R_H, F_H, 8, rfl, by decide, i_H, Or.inl (tk_at 89 (by decide +kernel) (by decide +kernel))⟩
theorem g_H_30 : tk_FF "ChargePlans$Heats" 30 2 7 := ⟨R_H, F_H, 8, rfl, by decide, i_H, tk_at 89 (by decide +kernel) (by decide +kernel), rfl⟩
theorem f_CP_118 : tk_F "ChargePlans" 118 2 7 := ⟨R_H, F_H, 8, rfl, by decide, i_H, Or.inr ⟨"ChargePlans", tk_at 90 (by decide +kernel) (by decide +kernel)⟩⟩
theorem f_S_27 : tk_F "ChargePlans$Sums" 27 4 0 := ⟨R_S, F_S, 4, rfl, by decide, i_S, Or.inl (tk_at 120 (by decide +kernel) (by decide +kernel))⟩
theorem g_S_27 : tk_FF "ChargePlans$Sums" 27 4 0 := ⟨R_S, F_S, 4, rfl, by decide, i_S, tk_at 120 (by decide +kernel) (by decide +kernel), rfl⟩
theorem f_P_50 : tk_F "ChargePlans$Planning" 50 4 0 := ⟨R_S, F_S, 4, rfl, by decide, i_S, Or.inr ⟨"ChargePlans", tk_at 121 (by decide +kernel) (by decide +kernel)⟩⟩
theorem f_C_38 : tk_F "ChargePlans$Clashing" 38 4 0 := ⟨R_S, F_S, 4, rfl, by decide, i_S, Or.inr ⟨"ChargePlans", tk_at 122 (by decide +kernel) (by decide +kernel)⟩⟩
theorem f_S_9 : tk_F "ChargePlans$Sums" 9 4 1 := ⟨R_S, F_S, 4, rfl, by decide, i_S, Or.inl (tk_at 123 (by decide +kernel) (by decide +kernel))⟩
theorem g_S_9 : tk_FF "ChargePlans$Sums" 9 4 1 := ⟨R_S, F_S, 4, rfl, by decide, i_S, tk_at 123 (by decide +kernel) (by decide +kernel), rfl⟩
theorem f_P_59 : tk_F "ChargePlans$Planning" 59 4 1 := ⟨R_S, F_S, 4, rfl, by decide, i_S, Or.inr ⟨"ChargePlans", tk_at 124 (by decide +kernel) (by decide +kernel)⟩⟩
theorem f_C_49 : tk_F "ChargePlans$Clashing" 49 4 1 := ⟨R_S, F_S, 4, rfl, by decide, i_S, Or.inr ⟨"ChargePlans", tk_at 125 (by decide +kernel) (by decide +kernel)⟩⟩
theorem f_S_15 : tk_F "ChargePlans$Sums" 15 4 2 := ⟨R_S, F_S, 4, rfl, by decide, i_S, Or.inl (tk_at 126 (by decide +kernel) (by decide +kernel))⟩
theorem g_S_15 : tk_FF "ChargePlans$Sums" 15 4 2 := ⟨R_S, F_S, 4, rfl, by decide, i_S, tk_at 126 (by decide +kernel) (by decide +kernel), rfl⟩
theorem f_S_18 : tk_F "ChargePlans$Sums" 18 4 3 := ⟨R_S, F_S, 4, rfl, by decide, i_S, Or.inl (tk_at 127 (by decide +kernel) (by decide +kernel))⟩
theorem g_S_18 : tk_FF "ChargePlans$Sums" 18 4 3 := ⟨R_S, F_S, 4, rfl, by decide, i_S, tk_at 127 (by decide +kernel) (by decide +kernel), rfl⟩
theorem f_P_12 : tk_F "ChargePlans$Planning" 12 3 0 := ⟨R_P, F_P, 8, rfl, by decide, i_P, Or.inl (tk_at 137 (by decide +kernel) (by decide +kernel))⟩
theorem g_P_12 : tk_FF "ChargePlans$Planning" 12 3 0 := ⟨R_P, F_P, 8, rfl, by decide, i_P, tk_at 137 (by decide +kernel) (by decide +kernel), rfl⟩
theorem f_P_18 : tk_F "ChargePlans$Planning" 18 3 1 := ⟨R_P, F_P, 8, rfl, by decide, i_P, Or.inl (tk_at 138 (by decide +kernel) (by decide +kernel))⟩
theorem g_P_18 : tk_FF "ChargePlans$Planning" 18 3 1 := ⟨R_P, F_P, 8, rfl, by decide, i_P, tk_at 138 (by decide +kernel) (by decide +kernel), rfl⟩
theorem f_P_22 : tk_F "ChargePlans$Planning" 22 3 2 := ⟨R_P, F_P, 8, rfl, by decide, i_P, Or.inl (tk_at 139 (by decide +kernel) (by decide +kernel))⟩
theorem g_P_22 : tk_FF "ChargePlans$Planning" 22 3 2 := ⟨R_P, F_P, 8, rfl, by decide, i_P, tk_at 139 (by decide +kernel) (by decide +kernel), rfl⟩
theorem f_CP_94 : tk_F "ChargePlans" 94 3 2 := ⟨R_P, F_P, 8, rfl, by decide, i_P, Or.inr ⟨"ChargePlans", tk_at 140 (by decide +kernel) (by decide +kernel)⟩⟩
theorem f_P_29 : tk_F "ChargePlans$Planning" 29 3 3 := ⟨R_P, F_P, 8, rfl, by decide, i_P, Or.inl (tk_at 141 (by decide +kernel) (by decide +kernel))⟩
theorem g_P_29 : tk_FF "ChargePlans$Planning" 29 3 3 := ⟨R_P, F_P, 8, rfl, by decide, i_P, tk_at 141 (by decide +kernel) (by decide +kernel), rfl⟩
theorem f_CP_97 : tk_F "ChargePlans" 97 3 3 := ⟨R_P, F_P, 8, rfl, by decide, i_P, Or.inr ⟨"ChargePlans", tk_at 142 (by decide +kernel) (by decide +kernel)⟩⟩
theorem f_P_33 : tk_F "ChargePlans$Planning" 33 3 4 := ⟨R_P, F_P, 8, rfl, by decide, i_P, Or.inl (tk_at 143 (by decide +kernel) (by decide +kernel))⟩
theorem g_P_33 : tk_FF "ChargePlans$Planning" 33 3 4 := ⟨R_P, F_P, 8, rfl, by decide, i_P, tk_at 143 (by decide +kernel) (by decide +kernel), rfl⟩
theorem f_P_36 : tk_F "ChargePlans$Planning" 36 3 5 := ⟨R_P, F_P, 8, rfl, by decide, i_P, Or.inl (tk_at 144 (by decide +kernel) (by decide +kernel))⟩
theorem g_P_36 : tk_FF "ChargePlans$Planning" 36 3 5 := ⟨R_P, F_P, 8, rfl, by decide, i_P, tk_at 144 (by decide +kernel) (by decide +kernel), rfl⟩
theorem f_CP_108 : tk_F "ChargePlans" 108 3 5 := ⟨R_P, F_P, 8, rfl, by decide, i_P, Or.inr ⟨"ChargePlans", tk_at 145 (by decide +kernel) (by decide +kernel)⟩⟩
theorem f_P_39 : tk_F "ChargePlans$Planning" 39 3 6 := ⟨R_P, F_P, 8, rfl, by decide, i_P, Or.inl (tk_at 146 (by decide +kernel) (by decide +kernel))⟩
theorem g_P_39 : tk_FF "ChargePlans$Planning" 39 3 6 := ⟨R_P, F_P, 8, rfl, by decide, i_P, tk_at 146 (by decide +kernel) (by decide +kernel), rfl⟩
theorem f_CP_111 : tk_F "ChargePlans" 111 3 6 := ⟨R_P, F_P, 8, rfl, by decide, i_P, Or.inr ⟨"ChargePlans", tk_at 147 (by decide +kernel) (by decide +kernel)⟩⟩
theorem f_P_43 : tk_F "ChargePlans$Planning" 43 3 7 := ⟨R_P, F_P, 8, rfl, by decide, i_P, Or.inl (tk_at 148 (by decide +kernel) (by decide +kernel))⟩
theorem g_P_43 : tk_FF "ChargePlans$Planning" 43 3 7 := ⟨R_P, F_P, 8, rfl, by decide, i_P, tk_at 148 (by decide +kernel) (by decide +kernel), rfl⟩
theorem f_CP_104 : tk_F "ChargePlans" 104 3 7 := ⟨R_P, F_P, 8, rfl, by decide, i_P, Or.inr ⟨"ChargePlans", tk_at 149 (by decide +kernel) (by decide +kernel)⟩⟩
theorem f_C_12 : tk_F "ChargePlans$Clashing" 12 5 0 := ⟨R_C, F_C, 3, rfl, by decide, i_C, Or.inl (tk_at 175 (by decide +kernel) (by decide +kernel))⟩
theorem g_C_12 : tk_FF "ChargePlans$Clashing" 12 5 0 := ⟨R_C, F_C, 3, rfl, by decide, i_C, tk_at 175 (by decide +kernel) (by decide +kernel), rfl⟩
theorem f_C_18 : tk_F "ChargePlans$Clashing" 18 5 1 := ⟨R_C, F_C, 3, rfl, by decide, i_C, Or.inl (tk_at 176 (by decide +kernel) (by decide +kernel))⟩
theorem g_C_18 : tk_FF "ChargePlans$Clashing" 18 5 1 := ⟨R_C, F_C, 3, rfl, by decide, i_C, tk_at 176 (by decide +kernel) (by decide +kernel), rfl⟩
theorem f_C_26 : tk_F "ChargePlans$Clashing" 26 5 2 := ⟨R_C, F_C, 3, rfl, by decide, i_C, Or.inl (tk_at 177 (by decide +kernel) (by decide +kernel))⟩
theorem g_C_26 : tk_FF "ChargePlans$Clashing" 26 5 2 := ⟨R_C, F_C, 3, rfl, by decide, i_C, tk_at 177 (by decide +kernel) (by decide +kernel), rfl⟩
theorem f_CP_10 : tk_F "ChargePlans" 10 0 0 := ⟨R_CP, F_CP, 4, rfl, by decide, i_CP, Or.inl (tk_at 186 (by decide +kernel) (by decide +kernel))⟩
theorem g_CP_10 : tk_FF "ChargePlans" 10 0 0 := ⟨R_CP, F_CP, 4, rfl, by decide, i_CP, tk_at 186 (by decide +kernel) (by decide +kernel), rfl⟩
theorem f_CP_19 : tk_F "ChargePlans" 19 0 1 := ⟨R_CP, F_CP, 4, rfl, by decide, i_CP, Or.inl (tk_at 187 (by decide +kernel) (by decide +kernel))⟩
theorem g_CP_19 : tk_FF "ChargePlans" 19 0 1 := ⟨R_CP, F_CP, 4, rfl, by decide, i_CP, tk_at 187 (by decide +kernel) (by decide +kernel), rfl⟩
theorem f_CP_26 : tk_F "ChargePlans" 26 0 2 := ⟨R_CP, F_CP, 4, rfl, by decide, i_CP, Or.inl (tk_at 188 (by decide +kernel) (by decide +kernel))⟩
theorem g_CP_26 : tk_FF "ChargePlans" 26 0 2 := ⟨R_CP, F_CP, 4, rfl, by decide, i_CP, tk_at 188 (by decide +kernel) (by decide +kernel), rfl⟩
theorem f_CP_33 : tk_F "ChargePlans" 33 0 3 := ⟨R_CP, F_CP, 4, rfl, by decide, i_CP, Or.inl (tk_at 189 (by decide +kernel) (by decide +kernel))⟩
theorem g_CP_33 : tk_FF "ChargePlans" 33 0 3 := ⟨R_CP, F_CP, 4, rfl, by decide, i_CP, tk_at 189 (by decide +kernel) (by decide +kernel), rfl⟩
theorem f_M_56 : tk_F "ChargePlansModel" 56 6 0 := ⟨R_M, F_M, 21, rfl, by decide, i_M, Or.inl (tk_at 556 (by decide +kernel) (by decide +kernel))⟩
theorem g_M_56 : tk_FF "ChargePlansModel" 56 6 0 := ⟨R_M, F_M, 21, rfl, by decide, i_M, tk_at 556 (by decide +kernel) (by decide +kernel), rfl⟩
theorem f_M_60 : tk_F "ChargePlansModel" 60 6 1 := ⟨R_M, F_M, 21, rfl, by decide, i_M, Or.inl (tk_at 557 (by decide +kernel) (by decide +kernel))⟩
theorem g_M_60 : tk_FF "ChargePlansModel" 60 6 1 := ⟨R_M, F_M, 21, rfl, by decide, i_M, tk_at 557 (by decide +kernel) (by decide +kernel), rfl⟩
theorem f_M_7 : tk_F "ChargePlansModel" 7 6 2 := ⟨R_M, F_M, 21, rfl, by decide, i_M, Or.inl (tk_at 558 (by decide +kernel) (by decide +kernel))⟩
theorem g_M_7 : tk_FF "ChargePlansModel" 7 6 2 := ⟨R_M, F_M, 21, rfl, by decide, i_M, tk_at 558 (by decide +kernel) (by decide +kernel), rfl⟩
theorem f_M_13 : tk_F "ChargePlansModel" 13 6 3 := ⟨R_M, F_M, 21, rfl, by decide, i_M, Or.inl (tk_at 559 (by decide +kernel) (by decide +kernel))⟩
theorem g_M_13 : tk_FF "ChargePlansModel" 13 6 3 := ⟨R_M, F_M, 21, rfl, by decide, i_M, tk_at 559 (by decide +kernel) (by decide +kernel), rfl⟩
theorem f_M_16 : tk_F "ChargePlansModel" 16 6 4 := ⟨R_M, F_M, 21, rfl, by decide, i_M, Or.inl (tk_at 560 (by decide +kernel) (by decide +kernel))⟩
theorem g_M_16 : tk_FF "ChargePlansModel" 16 6 4 := ⟨R_M, F_M, 21, rfl, by decide, i_M, tk_at 560 (by decide +kernel) (by decide +kernel), rfl⟩
theorem f_M_19 : tk_F "ChargePlansModel" 19 6 5 := ⟨R_M, F_M, 21, rfl, by decide, i_M, Or.inl (tk_at 561 (by decide +kernel) (by decide +kernel))⟩
theorem g_M_19 : tk_FF "ChargePlansModel" 19 6 5 := ⟨R_M, F_M, 21, rfl, by decide, i_M, tk_at 561 (by decide +kernel) (by decide +kernel), rfl⟩
theorem f_M_22 : tk_F "ChargePlansModel" 22 6 6 := ⟨R_M, F_M, 21, rfl, by decide, i_M, Or.inl (tk_at 562 (by decide +kernel) (by decide +kernel))⟩
theorem g_M_22 : tk_FF "ChargePlansModel" 22 6 6 := ⟨R_M, F_M, 21, rfl, by decide, i_M, tk_at 562 (by decide +kernel) (by decide +kernel), rfl⟩
theorem f_M_25 : tk_F "ChargePlansModel" 25 6 7 := ⟨R_M, F_M, 21, rfl, by decide, i_M, Or.inl (tk_at 563 (by decide +kernel) (by decide +kernel))⟩
theorem g_M_25 : tk_FF "ChargePlansModel" 25 6 7 := ⟨R_M, F_M, 21, rfl, by decide, i_M, tk_at 563 (by decide +kernel) (by decide +kernel), rfl⟩
theorem f_M_67 : tk_F "ChargePlansModel" 67 6 8 := ⟨R_M, F_M, 21, rfl, by decide, i_M, Or.inl (tk_at 564 (by decide +kernel) (by decide +kernel))⟩
theorem g_M_67 : tk_FF "ChargePlansModel" 67 6 8 := ⟨R_M, F_M, 21, rfl, by decide, i_M, tk_at 564 (by decide +kernel) (by decide +kernel), rfl⟩
theorem f_M_28 : tk_F "ChargePlansModel" 28 6 9 := ⟨R_M, F_M, 21, rfl, by decide, i_M, Or.inl (tk_at 565 (by decide +kernel) (by decide +kernel))⟩
theorem g_M_28 : tk_FF "ChargePlansModel" 28 6 9 := ⟨R_M, F_M, 21, rfl, by decide, i_M, tk_at 565 (by decide +kernel) (by decide +kernel), rfl⟩
theorem f_M_31 : tk_F "ChargePlansModel" 31 6 10 := ⟨R_M, F_M, 21, rfl, by decide, i_M, Or.inl (tk_at 566 (by decide +kernel) (by decide +kernel))⟩
theorem g_M_31 : tk_FF "ChargePlansModel" 31 6 10 := ⟨R_M, F_M, 21, rfl, by decide, i_M, tk_at 566 (by decide +kernel) (by decide +kernel), rfl⟩
theorem f_M_34 : tk_F "ChargePlansModel" 34 6 11 := ⟨R_M, F_M, 21, rfl, by decide, i_M, Or.inl (tk_at 567 (by decide +kernel) (by decide +kernel))⟩
theorem g_M_34 : tk_FF "ChargePlansModel" 34 6 11 := ⟨R_M, F_M, 21, rfl, by decide, i_M, tk_at 567 (by decide +kernel) (by decide +kernel), rfl⟩
theorem f_M_37 : tk_F "ChargePlansModel" 37 6 12 := ⟨R_M, F_M, 21, rfl, by decide, i_M, Or.inl (tk_at 568 (by decide +kernel) (by decide +kernel))⟩
theorem g_M_37 : tk_FF "ChargePlansModel" 37 6 12 := ⟨R_M, F_M, 21, rfl, by decide, i_M, tk_at 568 (by decide +kernel) (by decide +kernel), rfl⟩
theorem f_M_40 : tk_F "ChargePlansModel" 40 6 13 := ⟨R_M, F_M, 21, rfl, by decide, i_M, Or.inl (tk_at 569 (by decide +kernel) (by decide +kernel))⟩
theorem g_M_40 : tk_FF "ChargePlansModel" 40 6 13 := ⟨R_M, F_M, 21, rfl, by decide, i_M, tk_at 569 (by decide +kernel) (by decide +kernel), rfl⟩
theorem f_M_43 : tk_F "ChargePlansModel" 43 6 14 := ⟨R_M, F_M, 21, rfl, by decide, i_M, Or.inl (tk_at 570 (by decide +kernel) (by decide +kernel))⟩
theorem g_M_43 : tk_FF "ChargePlansModel" 43 6 14 := ⟨R_M, F_M, 21, rfl, by decide, i_M, tk_at 570 (by decide +kernel) (by decide +kernel), rfl⟩
theorem f_M_46 : tk_F "ChargePlansModel" 46 6 15 := ⟨R_M, F_M, 21, rfl, by decide, i_M, Or.inl (tk_at 571 (by decide +kernel) (by decide +kernel))⟩
theorem g_M_46 : tk_FF "ChargePlansModel" 46 6 15 := ⟨R_M, F_M, 21, rfl, by decide, i_M, tk_at 571 (by decide +kernel) (by decide +kernel), rfl⟩
theorem f_M_101 : tk_F "ChargePlansModel" 101 6 16 := ⟨R_M, F_M, 21, rfl, by decide, i_M, Or.inl (tk_at 572 (by decide +kernel) (by decide +kernel))⟩
theorem g_M_101 : tk_FF "ChargePlansModel" 101 6 16 := ⟨R_M, F_M, 21, rfl, by decide, i_M, tk_at 572 (by decide +kernel) (by decide +kernel), rfl⟩
theorem f_M_105 : tk_F "ChargePlansModel" 105 6 17 := ⟨R_M, F_M, 21, rfl, by decide, i_M, Or.inl (tk_at 573 (by decide +kernel) (by decide +kernel))⟩
theorem g_M_105 : tk_FF "ChargePlansModel" 105 6 17 := ⟨R_M, F_M, 21, rfl, by decide, i_M, tk_at 573 (by decide +kernel) (by decide +kernel), rfl⟩
theorem f_M_108 : tk_F "ChargePlansModel" 108 6 18 := ⟨R_M, F_M, 21, rfl, by decide, i_M, Or.inl (tk_at 574 (by decide +kernel) (by decide +kernel))⟩
theorem g_M_108 : tk_FF "ChargePlansModel" 108 6 18 := ⟨R_M, F_M, 21, rfl, by decide, i_M, tk_at 574 (by decide +kernel) (by decide +kernel), rfl⟩
theorem f_M_49 : tk_F "ChargePlansModel" 49 6 19 := ⟨R_M, F_M, 21, rfl, by decide, i_M, Or.inl (tk_at 575 (by decide +kernel) (by decide +kernel))⟩
theorem g_M_49 : tk_FF "ChargePlansModel" 49 6 19 := ⟨R_M, F_M, 21, rfl, by decide, i_M, tk_at 575 (by decide +kernel) (by decide +kernel), rfl⟩
theorem f_M_52 : tk_F "ChargePlansModel" 52 6 20 := ⟨R_M, F_M, 21, rfl, by decide, i_M, Or.inl (tk_at 576 (by decide +kernel) (by decide +kernel))⟩
theorem g_M_52 : tk_FF "ChargePlansModel" 52 6 20 := ⟨R_M, F_M, 21, rfl, by decide, i_M, tk_at 576 (by decide +kernel) (by decide +kernel), rfl⟩
abbrev c_CP_init : ByteArray := prog_1_method_1_code
def y_CP_init : MethodName := ⟨"ChargePlans", "<init>", "()V"⟩
abbrev w_CP_init : Cond := .code y_CP_init c_CP_init 1 none
set_option maxRecDepth 20000 in
theorem k_CP_init : tk_CI y_CP_init w_CP_init 1 0 := ⟨⟨tk_isC_code, tk_ac 20 rfl (by decide +kernel), tk_at 1 (by decide +kernel) (by decide +kernel), by decide, by decide +kernel, by decide +kernel⟩, tk_at 19 (by decide +kernel) (by decide +kernel), rfl, _, rfl⟩
abbrev c_G_init : ByteArray := prog_3_method_1_code
def y_G_init : MethodName := ⟨"ChargePlans$Goods", "<init>", "()V"⟩
abbrev w_G_init : Cond := .code y_G_init c_G_init 1 none
set_option maxRecDepth 20000 in
theorem k_G_init : tk_CI y_G_init w_G_init 1 0 := ⟨⟨tk_isC_code, tk_ac 28 rfl (by decide +kernel), tk_at 2 (by decide +kernel) (by decide +kernel), by decide, by decide +kernel, by decide +kernel⟩, tk_at 27 (by decide +kernel) (by decide +kernel), rfl, _, rfl⟩
abbrev c_H_init : ByteArray := prog_4_method_1_code
def y_H_init : MethodName := ⟨"ChargePlans$Heats", "<init>", "()V"⟩
abbrev w_H_init : Cond := .code y_H_init c_H_init 1 none
set_option maxRecDepth 20000 in
theorem k_H_init : tk_CI y_H_init w_H_init 1 0 := ⟨⟨tk_isC_code, tk_ac 69 rfl (by decide +kernel), tk_at 3 (by decide +kernel) (by decide +kernel), by decide, by decide +kernel, by decide +kernel⟩, tk_at 68 (by decide +kernel) (by decide +kernel), rfl, _, rfl⟩
abbrev c_P_init : ByteArray := prog_5_method_1_code
def y_P_init : MethodName := ⟨"ChargePlans$Planning", "<init>", "()V"⟩
abbrev w_P_init : Cond := .code y_P_init c_P_init 1 none
set_option maxRecDepth 20000 in
theorem k_P_init : tk_CI y_P_init w_P_init 1 0 := ⟨⟨tk_isC_code, tk_ac 112 rfl (by decide +kernel), tk_at 4 (by decide +kernel) (by decide +kernel), by decide, by decide +kernel, by decide +kernel⟩, tk_at 111 (by decide +kernel) (by decide +kernel), rfl, _, rfl⟩
abbrev c_S_init : ByteArray := prog_6_method_1_code
def y_S_init : MethodName := ⟨"ChargePlans$Sums", "<init>", "()V"⟩
abbrev w_S_init : Cond := .code y_S_init c_S_init 1 none
set_option maxRecDepth 20000 in
theorem k_S_init : tk_CI y_S_init w_S_init 1 0 := ⟨⟨tk_isC_code, tk_ac 118 rfl (by decide +kernel), tk_at 5 (by decide +kernel) (by decide +kernel), by decide, by decide +kernel, by decide +kernel⟩, tk_at 117 (by decide +kernel) (by decide +kernel), rfl, _, rfl⟩
abbrev c_C_init : ByteArray := prog_2_method_1_code
def y_C_init : MethodName := ⟨"ChargePlans$Clashing", "<init>", "()V"⟩
abbrev w_C_init : Cond := .code y_C_init c_C_init 1 none
set_option maxRecDepth 20000 in
theorem k_C_init : tk_CI y_C_init w_C_init 1 0 := ⟨⟨tk_isC_code, tk_ac 171 rfl (by decide +kernel), tk_at 6 (by decide +kernel) (by decide +kernel), by decide, by decide +kernel, by decide +kernel⟩, tk_at 170 (by decide +kernel) (by decide +kernel), rfl, _, rfl⟩
abbrev c_L_good : ByteArray := method_3_code
def y_L_good : MethodName := ⟨"ChargePlansLaw", "good", "(LChargePlans;III[J)I"⟩
abbrev h_L_good : List (Nat × Nat × Nat × Nat) := [(0, 12, 15, 13), (0, 12, 19, 15)]
abbrev w_L_good : Cond := .codeWith y_L_good c_L_good 6 (some .int) h_L_good
set_option maxRecDepth 20000 in
theorem k_L_good : tk_CS y_L_good w_L_good 6 5 := ⟨⟨tk_isC_with, tk_ac 201 rfl (by decide +kernel), tk_at 0 (by decide +kernel) (by decide +kernel), by decide, by decide +kernel, by decide +kernel⟩, tk_at 200 (by decide +kernel) (by decide +kernel)⟩
abbrev c_CP_good : ByteArray := prog_1_method_2_code
def y_CP_good : MethodName := ⟨"ChargePlans", "good", "(III)I"⟩
abbrev w_CP_good : Cond := .code y_CP_good c_CP_good 4 (some .int)
set_option maxRecDepth 20000 in
theorem k_CP_good : tk_CV y_CP_good w_CP_good 4 3 := ⟨⟨tk_isC_code, tk_ac 207 rfl (by decide +kernel), tk_at 1 (by decide +kernel) (by decide +kernel), by decide, by decide +kernel, by decide +kernel⟩, tk_at 205 (by decide +kernel) (by decide +kernel), tk_at 206 (by decide +kernel) (by decide +kernel)⟩
abbrev c_CP_requireTurn : ByteArray := prog_1_method_22_code
def y_CP_requireTurn : MethodName := ⟨"ChargePlans", "requireTurn", "(Z)V"⟩
abbrev w_CP_requireTurn : Cond := .code y_CP_requireTurn c_CP_requireTurn 1 none
set_option maxRecDepth 20000 in
theorem k_CP_requireTurn : tk_CS y_CP_requireTurn w_CP_requireTurn 1 1 := ⟨⟨tk_isC_code, tk_ac 210 rfl (by decide +kernel), tk_at 1 (by decide +kernel) (by decide +kernel), by decide, by decide +kernel, by decide +kernel⟩, tk_at 209 (by decide +kernel) (by decide +kernel)⟩
abbrev c_CP_requireRange : ByteArray := prog_1_method_24_code
def y_CP_requireRange : MethodName := ⟨"ChargePlans", "requireRange", "(III)V"⟩
abbrev w_CP_requireRange : Cond := .code y_CP_requireRange c_CP_requireRange 3 none
set_option maxRecDepth 20000 in
theorem k_CP_requireRange : tk_CS y_CP_requireRange w_CP_requireRange 3 3 := ⟨⟨tk_isC_code, tk_ac 282 rfl (by decide +kernel), tk_at 1 (by decide +kernel) (by decide +kernel), by decide, by decide +kernel, by decide +kernel⟩, tk_at 281 (by decide +kernel) (by decide +kernel)⟩
abbrev c_CP_requireArgument : ByteArray := prog_1_method_23_code
def y_CP_requireArgument : MethodName := ⟨"ChargePlans", "requireArgument", "(Z)V"⟩
abbrev w_CP_requireArgument : Cond := .code y_CP_requireArgument c_CP_requireArgument 1 none
set_option maxRecDepth 20000 in
theorem k_CP_requireArgument : tk_CS y_CP_requireArgument w_CP_requireArgument 1 1 := ⟨⟨tk_isC_code, tk_ac 285 rfl (by decide +kernel), tk_at 1 (by decide +kernel) (by decide +kernel), by decide, by decide +kernel, by decide +kernel⟩, tk_at 284 (by decide +kernel) (by decide +kernel)⟩
abbrev c_G_append : ByteArray := prog_3_method_2_code
def y_G_append : MethodName := ⟨"ChargePlans$Goods", "append", "(III)I"⟩
abbrev w_G_append : Cond := .code y_G_append c_G_append 5 (some .int)
set_option maxRecDepth 20000 in
theorem k_G_append : tk_CV y_G_append w_G_append 5 3 := ⟨⟨tk_isC_code, tk_ac 306 rfl (by decide +kernel), tk_at 2 (by decide +kernel) (by decide +kernel), by decide, by decide +kernel, by decide +kernel⟩, tk_at 305 (by decide +kernel) (by decide +kernel), tk_sl (by decide +kernel) (by decide +kernel)⟩
abbrev c_L_element : ByteArray := method_4_code
def y_L_element : MethodName := ⟨"ChargePlansLaw", "element", "(LChargePlans;IIII)I"⟩
abbrev h_L_element : List (Nat × Nat × Nat × Nat) := [(0, 9, 12, 21), (0, 9, 16, 15)]
abbrev w_L_element : Cond := .codeWith y_L_element c_L_element 6 (some .int) h_L_element
set_option maxRecDepth 20000 in
theorem k_L_element : tk_CS y_L_element w_L_element 6 5 := ⟨⟨tk_isC_with, tk_ac 309 rfl (by decide +kernel), tk_at 0 (by decide +kernel) (by decide +kernel), by decide, by decide +kernel, by decide +kernel⟩, tk_at 308 (by decide +kernel) (by decide +kernel)⟩
abbrev c_CP_element : ByteArray := prog_1_method_3_code
def y_CP_element : MethodName := ⟨"ChargePlans", "element", "(IIII)V"⟩
abbrev w_CP_element : Cond := .code y_CP_element c_CP_element 5 none
set_option maxRecDepth 20000 in
theorem k_CP_element : tk_CV y_CP_element w_CP_element 5 4 := ⟨⟨tk_isC_code, tk_ac 314 rfl (by decide +kernel), tk_at 1 (by decide +kernel) (by decide +kernel), by decide, by decide +kernel, by decide +kernel⟩, tk_at 312 (by decide +kernel) (by decide +kernel), tk_at 313 (by decide +kernel) (by decide +kernel)⟩
abbrev c_CP_requireIndex : ByteArray := prog_1_method_21_code
def y_CP_requireIndex : MethodName := ⟨"ChargePlans", "requireIndex", "(II)V"⟩
abbrev w_CP_requireIndex : Cond := .code y_CP_requireIndex c_CP_requireIndex 2 none
set_option maxRecDepth 20000 in
theorem k_CP_requireIndex : tk_CS y_CP_requireIndex w_CP_requireIndex 2 2 := ⟨⟨tk_isC_code, tk_ac 317 rfl (by decide +kernel), tk_at 1 (by decide +kernel) (by decide +kernel), by decide, by decide +kernel, by decide +kernel⟩, tk_at 316 (by decide +kernel) (by decide +kernel)⟩
abbrev c_CP_requireSpan : ByteArray := prog_1_method_25_code
def y_CP_requireSpan : MethodName := ⟨"ChargePlans", "requireSpan", "(IIII)V"⟩
abbrev w_CP_requireSpan : Cond := .code y_CP_requireSpan c_CP_requireSpan 4 none
set_option maxRecDepth 20000 in
theorem k_CP_requireSpan : tk_CS y_CP_requireSpan w_CP_requireSpan 4 4 := ⟨⟨tk_isC_code, tk_ac 336 rfl (by decide +kernel), tk_at 1 (by decide +kernel) (by decide +kernel), by decide, by decide +kernel, by decide +kernel⟩, tk_at 335 (by decide +kernel) (by decide +kernel)⟩
abbrev c_L_limit : ByteArray := method_5_code
def y_L_limit : MethodName := ⟨"ChargePlansLaw", "limit", "(LChargePlans;II)I"⟩
abbrev h_L_limit : List (Nat × Nat × Nat × Nat) := [(0, 6, 9, 21), (0, 6, 12, 15)]
abbrev w_L_limit : Cond := .codeWith y_L_limit c_L_limit 4 (some .int) h_L_limit
set_option maxRecDepth 20000 in
theorem k_L_limit : tk_CS y_L_limit w_L_limit 4 3 := ⟨⟨tk_isC_with, tk_ac 339 rfl (by decide +kernel), tk_at 0 (by decide +kernel) (by decide +kernel), by decide, by decide +kernel, by decide +kernel⟩, tk_at 338 (by decide +kernel) (by decide +kernel)⟩
abbrev c_CP_limit : ByteArray := prog_1_method_4_code
def y_CP_limit : MethodName := ⟨"ChargePlans", "limit", "(II)V"⟩
abbrev w_CP_limit : Cond := .code y_CP_limit c_CP_limit 3 none
set_option maxRecDepth 20000 in
theorem k_CP_limit : tk_CV y_CP_limit w_CP_limit 3 2 := ⟨⟨tk_isC_code, tk_ac 343 rfl (by decide +kernel), tk_at 1 (by decide +kernel) (by decide +kernel), by decide, by decide +kernel, by decide +kernel⟩, tk_at 341 (by decide +kernel) (by decide +kernel), tk_at 342 (by decide +kernel) (by decide +kernel)⟩
abbrev c_L_arrive : ByteArray := method_6_code
def y_L_arrive : MethodName := ⟨"ChargePlansLaw", "arrive", "(LChargePlans;II[J)I"⟩
abbrev h_L_arrive : List (Nat × Nat × Nat × Nat) := [(0, 10, 13, 21), (0, 10, 17, 15), (0, 10, 21, 31)]
abbrev w_L_arrive : Cond := .codeWith y_L_arrive c_L_arrive 5 (some .int) h_L_arrive
set_option maxRecDepth 20000 in
theorem k_L_arrive : tk_CS y_L_arrive w_L_arrive 5 4 := ⟨⟨tk_isC_with, tk_ac 346 rfl (by decide +kernel), tk_at 0 (by decide +kernel) (by decide +kernel), by decide, by decide +kernel, by decide +kernel⟩, tk_at 345 (by decide +kernel) (by decide +kernel)⟩
abbrev c_CP_arrive : ByteArray := prog_1_method_5_code
def y_CP_arrive : MethodName := ⟨"ChargePlans", "arrive", "(II)I"⟩
abbrev w_CP_arrive : Cond := .code y_CP_arrive c_CP_arrive 3 (some .int)
set_option maxRecDepth 20000 in
theorem k_CP_arrive : tk_CV y_CP_arrive w_CP_arrive 3 2 := ⟨⟨tk_isC_code, tk_ac 351 rfl (by decide +kernel), tk_at 1 (by decide +kernel) (by decide +kernel), by decide, by decide +kernel, by decide +kernel⟩, tk_at 349 (by decide +kernel) (by decide +kernel), tk_at 350 (by decide +kernel) (by decide +kernel)⟩
abbrev c_CP_requireMeaning : ByteArray := prog_1_method_26_code
def y_CP_requireMeaning : MethodName := ⟨"ChargePlans", "requireMeaning", "(Z)V"⟩
abbrev w_CP_requireMeaning : Cond := .code y_CP_requireMeaning c_CP_requireMeaning 1 none
set_option maxRecDepth 20000 in
theorem k_CP_requireMeaning : tk_CS y_CP_requireMeaning w_CP_requireMeaning 1 1 := ⟨⟨tk_isC_code, tk_ac 354 rfl (by decide +kernel), tk_at 1 (by decide +kernel) (by decide +kernel), by decide, by decide +kernel, by decide +kernel⟩, tk_at 353 (by decide +kernel) (by decide +kernel)⟩
abbrev c_L_heat : ByteArray := method_7_code
def y_L_heat : MethodName := ⟨"ChargePlansLaw", "heat", "(LChargePlans;II[J)I"⟩
abbrev h_L_heat : List (Nat × Nat × Nat × Nat) := [(0, 10, 13, 13), (0, 10, 17, 15)]
abbrev w_L_heat : Cond := .codeWith y_L_heat c_L_heat 5 (some .int) h_L_heat
set_option maxRecDepth 20000 in
theorem k_L_heat : tk_CS y_L_heat w_L_heat 5 4 := ⟨⟨tk_isC_with, tk_ac 373 rfl (by decide +kernel), tk_at 0 (by decide +kernel) (by decide +kernel), by decide, by decide +kernel, by decide +kernel⟩, tk_at 372 (by decide +kernel) (by decide +kernel)⟩
abbrev c_CP_heat : ByteArray := prog_1_method_6_code
def y_CP_heat : MethodName := ⟨"ChargePlans", "heat", "(II)I"⟩
abbrev w_CP_heat : Cond := .code y_CP_heat c_CP_heat 3 (some .int)
set_option maxRecDepth 20000 in
theorem k_CP_heat : tk_CV y_CP_heat w_CP_heat 3 2 := ⟨⟨tk_isC_code, tk_ac 377 rfl (by decide +kernel), tk_at 1 (by decide +kernel) (by decide +kernel), by decide, by decide +kernel, by decide +kernel⟩, tk_at 375 (by decide +kernel) (by decide +kernel), tk_at 376 (by decide +kernel) (by decide +kernel)⟩
abbrev c_H_append : ByteArray := prog_4_method_2_code
def y_H_append : MethodName := ⟨"ChargePlans$Heats", "append", "(II)I"⟩
abbrev w_H_append : Cond := .code y_H_append c_H_append 5 (some .int)
set_option maxRecDepth 20000 in
theorem k_H_append : tk_CV y_H_append w_H_append 5 2 := ⟨⟨tk_isC_code, tk_ac 381 rfl (by decide +kernel), tk_at 3 (by decide +kernel) (by decide +kernel), by decide, by decide +kernel, by decide +kernel⟩, tk_at 380 (by decide +kernel) (by decide +kernel), tk_sl (by decide +kernel) (by decide +kernel)⟩
abbrev c_L_span : ByteArray := method_8_code
def y_L_span : MethodName := ⟨"ChargePlansLaw", "span", "(LChargePlans;IIII)I"⟩
abbrev h_L_span : List (Nat × Nat × Nat × Nat) := [(0, 9, 12, 21), (0, 9, 16, 15)]
abbrev w_L_span : Cond := .codeWith y_L_span c_L_span 6 (some .int) h_L_span
set_option maxRecDepth 20000 in
theorem k_L_span : tk_CS y_L_span w_L_span 6 5 := ⟨⟨tk_isC_with, tk_ac 384 rfl (by decide +kernel), tk_at 0 (by decide +kernel) (by decide +kernel), by decide, by decide +kernel, by decide +kernel⟩, tk_at 383 (by decide +kernel) (by decide +kernel)⟩
abbrev c_CP_span : ByteArray := prog_1_method_7_code
def y_CP_span : MethodName := ⟨"ChargePlans", "span", "(IIII)V"⟩
abbrev w_CP_span : Cond := .code y_CP_span c_CP_span 5 none
set_option maxRecDepth 20000 in
theorem k_CP_span : tk_CV y_CP_span w_CP_span 5 4 := ⟨⟨tk_isC_code, tk_ac 388 rfl (by decide +kernel), tk_at 1 (by decide +kernel) (by decide +kernel), by decide, by decide +kernel, by decide +kernel⟩, tk_at 386 (by decide +kernel) (by decide +kernel), tk_at 387 (by decide +kernel) (by decide +kernel)⟩
abbrev c_L_most : ByteArray := method_9_code
def y_L_most : MethodName := ⟨"ChargePlansLaw", "most", "(LChargePlans;II)I"⟩
abbrev h_L_most : List (Nat × Nat × Nat × Nat) := [(0, 6, 9, 21), (0, 6, 12, 15)]
abbrev w_L_most : Cond := .codeWith y_L_most c_L_most 4 (some .int) h_L_most
set_option maxRecDepth 20000 in
theorem k_L_most : tk_CS y_L_most w_L_most 4 3 := ⟨⟨tk_isC_with, tk_ac 391 rfl (by decide +kernel), tk_at 0 (by decide +kernel) (by decide +kernel), by decide, by decide +kernel, by decide +kernel⟩, tk_at 390 (by decide +kernel) (by decide +kernel)⟩
abbrev c_CP_most : ByteArray := prog_1_method_8_code
def y_CP_most : MethodName := ⟨"ChargePlans", "most", "(II)V"⟩
abbrev w_CP_most : Cond := .code y_CP_most c_CP_most 3 none
set_option maxRecDepth 20000 in
theorem k_CP_most : tk_CV y_CP_most w_CP_most 3 2 := ⟨⟨tk_isC_code, tk_ac 395 rfl (by decide +kernel), tk_at 1 (by decide +kernel) (by decide +kernel), by decide, by decide +kernel, by decide +kernel⟩, tk_at 393 (by decide +kernel) (by decide +kernel), tk_at 394 (by decide +kernel) (by decide +kernel)⟩
abbrev c_L_plan : ByteArray := method_10_code
def y_L_plan : MethodName := ⟨"ChargePlansLaw", "plan", "(LChargePlans;II[J)I"⟩
abbrev h_L_plan : List (Nat × Nat × Nat × Nat) := [(0, 10, 13, 21), (0, 10, 17, 15)]
abbrev w_L_plan : Cond := .codeWith y_L_plan c_L_plan 5 (some .int) h_L_plan
set_option maxRecDepth 20000 in
theorem k_L_plan : tk_CS y_L_plan w_L_plan 5 4 := ⟨⟨tk_isC_with, tk_ac 398 rfl (by decide +kernel), tk_at 0 (by decide +kernel) (by decide +kernel), by decide, by decide +kernel, by decide +kernel⟩, tk_at 397 (by decide +kernel) (by decide +kernel)⟩
abbrev c_CP_plan : ByteArray := prog_1_method_9_code
def y_CP_plan : MethodName := ⟨"ChargePlans", "plan", "(II)I"⟩
abbrev w_CP_plan : Cond := .code y_CP_plan c_CP_plan 3 (some .int)
set_option maxRecDepth 20000 in
theorem k_CP_plan : tk_CV y_CP_plan w_CP_plan 3 2 := ⟨⟨tk_isC_code, tk_ac 402 rfl (by decide +kernel), tk_at 1 (by decide +kernel) (by decide +kernel), by decide, by decide +kernel, by decide +kernel⟩, tk_at 400 (by decide +kernel) (by decide +kernel), tk_at 401 (by decide +kernel) (by decide +kernel)⟩
abbrev c_P_search : ByteArray := prog_5_method_2_code
def y_P_search : MethodName := ⟨"ChargePlans$Planning", "search", "(LChargePlans$Goods;LChargePlans$Heats;II)V"⟩
abbrev w_P_search : Cond := .code y_P_search c_P_search 5 none
set_option maxRecDepth 20000 in
theorem k_P_search : tk_CV y_P_search w_P_search 5 4 := ⟨⟨tk_isC_code, tk_ac 406 rfl (by decide +kernel), tk_at 4 (by decide +kernel) (by decide +kernel), by decide, by decide +kernel, by decide +kernel⟩, tk_at 405 (by decide +kernel) (by decide +kernel), tk_sl (by decide +kernel) (by decide +kernel)⟩
abbrev c_S_load : ByteArray := prog_6_method_2_code
def y_S_load : MethodName := ⟨"ChargePlans$Sums", "load", "(LChargePlans$Goods;LChargePlans$Heats;I)V"⟩
abbrev w_S_load : Cond := .code y_S_load c_S_load 5 none
set_option maxRecDepth 20000 in
theorem k_S_load : tk_CV y_S_load w_S_load 5 3 := ⟨⟨tk_isC_code, tk_ac 410 rfl (by decide +kernel), tk_at 5 (by decide +kernel) (by decide +kernel), by decide, by decide +kernel, by decide +kernel⟩, tk_at 409 (by decide +kernel) (by decide +kernel), tk_sl (by decide +kernel) (by decide +kernel)⟩
abbrev c_G_room : ByteArray := prog_3_method_3_code
def y_G_room : MethodName := ⟨"ChargePlans$Goods", "room", "(I)I"⟩
abbrev w_G_room : Cond := .code y_G_room c_G_room 2 (some .int)
set_option maxRecDepth 20000 in
theorem k_G_room : tk_CV y_G_room w_G_room 2 1 := ⟨⟨tk_isC_code, tk_ac 414 rfl (by decide +kernel), tk_at 2 (by decide +kernel) (by decide +kernel), by decide, by decide +kernel, by decide +kernel⟩, tk_at 413 (by decide +kernel) (by decide +kernel), tk_sl (by decide +kernel) (by decide +kernel)⟩
abbrev c_S_loadElements : ByteArray := prog_6_method_3_code
def y_S_loadElements : MethodName := ⟨"ChargePlans$Sums", "loadElements", "(LChargePlans$Goods;LChargePlans$Heats;II)V"⟩
abbrev w_S_loadElements : Cond := .code y_S_loadElements c_S_loadElements 9 none
set_option maxRecDepth 20000 in
theorem k_S_loadElements : tk_CV y_S_loadElements w_S_loadElements 9 4 := ⟨⟨tk_isC_code, tk_ac 421 rfl (by decide +kernel), tk_at 5 (by decide +kernel) (by decide +kernel), by decide, by decide +kernel, by decide +kernel⟩, tk_at 420 (by decide +kernel) (by decide +kernel), tk_sl (by decide +kernel) (by decide +kernel)⟩
abbrev c_P_tryNumbers : ByteArray := prog_5_method_3_code
def y_P_tryNumbers : MethodName := ⟨"ChargePlans$Planning", "tryNumbers", "(I)V"⟩
abbrev w_P_tryNumbers : Cond := .code y_P_tryNumbers c_P_tryNumbers 3 none
set_option maxRecDepth 20000 in
theorem k_P_tryNumbers : tk_CV y_P_tryNumbers w_P_tryNumbers 3 1 := ⟨⟨tk_isC_code, tk_ac 425 rfl (by decide +kernel), tk_at 4 (by decide +kernel) (by decide +kernel), by decide, by decide +kernel, by decide +kernel⟩, tk_at 424 (by decide +kernel) (by decide +kernel), tk_sl (by decide +kernel) (by decide +kernel)⟩
abbrev c_P_keepIfAllHold : ByteArray := prog_5_method_5_code
def y_P_keepIfAllHold : MethodName := ⟨"ChargePlans$Planning", "keepIfAllHold", "()V"⟩
abbrev w_P_keepIfAllHold : Cond := .code y_P_keepIfAllHold c_P_keepIfAllHold 2 none
set_option maxRecDepth 20000 in
theorem k_P_keepIfAllHold : tk_CV y_P_keepIfAllHold w_P_keepIfAllHold 2 0 := ⟨⟨tk_isC_code, tk_ac 429 rfl (by decide +kernel), tk_at 4 (by decide +kernel) (by decide +kernel), by decide, by decide +kernel, by decide +kernel⟩, tk_at 428 (by decide +kernel) (by decide +kernel), tk_sl (by decide +kernel) (by decide +kernel)⟩
abbrev c_S_broken : ByteArray := prog_6_method_8_code
def y_S_broken : MethodName := ⟨"ChargePlans$Sums", "broken", "()I"⟩
abbrev w_S_broken : Cond := .code y_S_broken c_S_broken 3 (some .int)
set_option maxRecDepth 20000 in
theorem k_S_broken : tk_CV y_S_broken w_S_broken 3 0 := ⟨⟨tk_isC_code, tk_ac 433 rfl (by decide +kernel), tk_at 5 (by decide +kernel) (by decide +kernel), by decide, by decide +kernel, by decide +kernel⟩, tk_at 432 (by decide +kernel) (by decide +kernel), tk_sl (by decide +kernel) (by decide +kernel)⟩
abbrev c_S_cents : ByteArray := prog_6_method_6_code
def y_S_cents : MethodName := ⟨"ChargePlans$Sums", "cents", "(I)I"⟩
abbrev w_S_cents : Cond := .code y_S_cents c_S_cents 2 (some .int)
set_option maxRecDepth 20000 in
theorem k_S_cents : tk_CV y_S_cents w_S_cents 2 1 := ⟨⟨tk_isC_code, tk_ac 437 rfl (by decide +kernel), tk_at 5 (by decide +kernel) (by decide +kernel), by decide, by decide +kernel, by decide +kernel⟩, tk_at 436 (by decide +kernel) (by decide +kernel), tk_sl (by decide +kernel) (by decide +kernel)⟩
abbrev c_S_settle : ByteArray := prog_6_method_4_code
def y_S_settle : MethodName := ⟨"ChargePlans$Sums", "settle", "(I)V"⟩
abbrev w_S_settle : Cond := .code y_S_settle c_S_settle 4 none
set_option maxRecDepth 20000 in
theorem k_S_settle : tk_CV y_S_settle w_S_settle 4 1 := ⟨⟨tk_isC_code, tk_ac 441 rfl (by decide +kernel), tk_at 5 (by decide +kernel) (by decide +kernel), by decide, by decide +kernel, by decide +kernel⟩, tk_at 440 (by decide +kernel) (by decide +kernel), tk_sl (by decide +kernel) (by decide +kernel)⟩
abbrev c_S_addBundle : ByteArray := prog_6_method_5_code
def y_S_addBundle : MethodName := ⟨"ChargePlans$Sums", "addBundle", "(I)V"⟩
abbrev w_S_addBundle : Cond := .code y_S_addBundle c_S_addBundle 4 none
set_option maxRecDepth 20000 in
theorem k_S_addBundle : tk_CV y_S_addBundle w_S_addBundle 4 1 := ⟨⟨tk_isC_code, tk_ac 445 rfl (by decide +kernel), tk_at 5 (by decide +kernel) (by decide +kernel), by decide, by decide +kernel, by decide +kernel⟩, tk_at 444 (by decide +kernel) (by decide +kernel), tk_sl (by decide +kernel) (by decide +kernel)⟩
abbrev c_P_givenUp : ByteArray := prog_5_method_4_code
def y_P_givenUp : MethodName := ⟨"ChargePlans$Planning", "givenUp", "(I)Z"⟩
abbrev w_P_givenUp : Cond := .code y_P_givenUp c_P_givenUp 2 (some .boolean)
set_option maxRecDepth 20000 in
theorem k_P_givenUp : tk_CV y_P_givenUp w_P_givenUp 2 1 := ⟨⟨tk_isC_code, tk_ac 449 rfl (by decide +kernel), tk_at 4 (by decide +kernel) (by decide +kernel), by decide, by decide +kernel, by decide +kernel⟩, tk_at 448 (by decide +kernel) (by decide +kernel), tk_sl (by decide +kernel) (by decide +kernel)⟩
abbrev c_S_tooHeavy : ByteArray := prog_6_method_7_code
def y_S_tooHeavy : MethodName := ⟨"ChargePlans$Sums", "tooHeavy", "(I)Z"⟩
abbrev w_S_tooHeavy : Cond := .code y_S_tooHeavy c_S_tooHeavy 2 (some .boolean)
set_option maxRecDepth 20000 in
theorem k_S_tooHeavy : tk_CV y_S_tooHeavy w_S_tooHeavy 2 1 := ⟨⟨tk_isC_code, tk_ac 453 rfl (by decide +kernel), tk_at 5 (by decide +kernel) (by decide +kernel), by decide, by decide +kernel, by decide +kernel⟩, tk_at 452 (by decide +kernel) (by decide +kernel), tk_sl (by decide +kernel) (by decide +kernel)⟩
abbrev c_H_keepPlan : ByteArray := prog_4_method_4_code
def y_H_keepPlan : MethodName := ⟨"ChargePlans$Heats", "keepPlan", "(I[II)V"⟩
abbrev w_H_keepPlan : Cond := .code y_H_keepPlan c_H_keepPlan 5 none
set_option maxRecDepth 20000 in
theorem k_H_keepPlan : tk_CV y_H_keepPlan w_H_keepPlan 5 3 := ⟨⟨tk_isC_code, tk_ac 457 rfl (by decide +kernel), tk_at 3 (by decide +kernel) (by decide +kernel), by decide, by decide +kernel, by decide +kernel⟩, tk_at 456 (by decide +kernel) (by decide +kernel), tk_sl (by decide +kernel) (by decide +kernel)⟩
abbrev c_L_planned : ByteArray := method_11_code
def y_L_planned : MethodName := ⟨"ChargePlansLaw", "planned", "(LChargePlans;I[J)I"⟩
abbrev h_L_planned : List (Nat × Nat × Nat × Nat) := [(0, 9, 12, 21), (0, 9, 15, 13)]
abbrev w_L_planned : Cond := .codeWith y_L_planned c_L_planned 4 (some .int) h_L_planned
set_option maxRecDepth 20000 in
theorem k_L_planned : tk_CS y_L_planned w_L_planned 4 3 := ⟨⟨tk_isC_with, tk_ac 460 rfl (by decide +kernel), tk_at 0 (by decide +kernel) (by decide +kernel), by decide, by decide +kernel, by decide +kernel⟩, tk_at 459 (by decide +kernel) (by decide +kernel)⟩
abbrev c_CP_planned : ByteArray := prog_1_method_10_code
def y_CP_planned : MethodName := ⟨"ChargePlans", "planned", "(I)I"⟩
abbrev w_CP_planned : Cond := .code y_CP_planned c_CP_planned 2 (some .int)
set_option maxRecDepth 20000 in
theorem k_CP_planned : tk_CV y_CP_planned w_CP_planned 2 1 := ⟨⟨tk_isC_code, tk_ac 464 rfl (by decide +kernel), tk_at 1 (by decide +kernel) (by decide +kernel), by decide, by decide +kernel, by decide +kernel⟩, tk_at 462 (by decide +kernel) (by decide +kernel), tk_at 463 (by decide +kernel) (by decide +kernel)⟩
abbrev c_L_amount : ByteArray := method_12_code
def y_L_amount : MethodName := ⟨"ChargePlansLaw", "amount", "(LChargePlans;II[J)I"⟩
abbrev h_L_amount : List (Nat × Nat × Nat × Nat) := [(0, 10, 13, 21), (0, 10, 17, 13)]
abbrev w_L_amount : Cond := .codeWith y_L_amount c_L_amount 5 (some .int) h_L_amount
set_option maxRecDepth 20000 in
theorem k_L_amount : tk_CS y_L_amount w_L_amount 5 4 := ⟨⟨tk_isC_with, tk_ac 467 rfl (by decide +kernel), tk_at 0 (by decide +kernel) (by decide +kernel), by decide, by decide +kernel, by decide +kernel⟩, tk_at 466 (by decide +kernel) (by decide +kernel)⟩
abbrev c_CP_amount : ByteArray := prog_1_method_11_code
def y_CP_amount : MethodName := ⟨"ChargePlans", "amount", "(II)I"⟩
abbrev w_CP_amount : Cond := .code y_CP_amount c_CP_amount 3 (some .int)
set_option maxRecDepth 20000 in
theorem k_CP_amount : tk_CV y_CP_amount w_CP_amount 3 2 := ⟨⟨tk_isC_code, tk_ac 471 rfl (by decide +kernel), tk_at 1 (by decide +kernel) (by decide +kernel), by decide, by decide +kernel, by decide +kernel⟩, tk_at 469 (by decide +kernel) (by decide +kernel), tk_at 470 (by decide +kernel) (by decide +kernel)⟩
abbrev c_H_hasPlan : ByteArray := prog_4_method_3_code
def y_H_hasPlan : MethodName := ⟨"ChargePlans$Heats", "hasPlan", "(I)Z"⟩
abbrev w_H_hasPlan : Cond := .code y_H_hasPlan c_H_hasPlan 2 (some .boolean)
set_option maxRecDepth 20000 in
theorem k_H_hasPlan : tk_CV y_H_hasPlan w_H_hasPlan 2 1 := ⟨⟨tk_isC_code, tk_ac 475 rfl (by decide +kernel), tk_at 3 (by decide +kernel) (by decide +kernel), by decide, by decide +kernel, by decide +kernel⟩, tk_at 474 (by decide +kernel) (by decide +kernel), tk_sl (by decide +kernel) (by decide +kernel)⟩
abbrev c_L_worst : ByteArray := method_13_code
def y_L_worst : MethodName := ⟨"ChargePlansLaw", "worst", "(LChargePlans;IIII[J)I"⟩
abbrev h_L_worst : List (Nat × Nat × Nat × Nat) := [(0, 13, 16, 21), (0, 13, 20, 13), (0, 13, 24, 31)]
abbrev w_L_worst : Cond := .codeWith y_L_worst c_L_worst 7 (some .int) h_L_worst
set_option maxRecDepth 20000 in
theorem k_L_worst : tk_CS y_L_worst w_L_worst 7 6 := ⟨⟨tk_isC_with, tk_ac 478 rfl (by decide +kernel), tk_at 0 (by decide +kernel) (by decide +kernel), by decide, by decide +kernel, by decide +kernel⟩, tk_at 477 (by decide +kernel) (by decide +kernel)⟩
abbrev c_CP_worst : ByteArray := prog_1_method_12_code
def y_CP_worst : MethodName := ⟨"ChargePlans", "worst", "(IIII)J"⟩
abbrev w_CP_worst : Cond := .code y_CP_worst c_CP_worst 9 (some .long)
set_option maxRecDepth 20000 in
theorem k_CP_worst : tk_CV y_CP_worst w_CP_worst 9 4 := ⟨⟨tk_isC_code, tk_ac 482 rfl (by decide +kernel), tk_at 1 (by decide +kernel) (by decide +kernel), by decide, by decide +kernel, by decide +kernel⟩, tk_at 480 (by decide +kernel) (by decide +kernel), tk_at 481 (by decide +kernel) (by decide +kernel)⟩
abbrev c_CP_plannedKilos : ByteArray := prog_1_method_18_code
def y_CP_plannedKilos : MethodName := ⟨"ChargePlans", "plannedKilos", "(I)J"⟩
abbrev w_CP_plannedKilos : Cond := .code y_CP_plannedKilos c_CP_plannedKilos 5 (some .long)
set_option maxRecDepth 20000 in
theorem k_CP_plannedKilos : tk_CV y_CP_plannedKilos w_CP_plannedKilos 5 1 := ⟨⟨tk_isC_code, tk_ac 486 rfl (by decide +kernel), tk_at 1 (by decide +kernel) (by decide +kernel), by decide, by decide +kernel, by decide +kernel⟩, tk_at 485 (by decide +kernel) (by decide +kernel), tk_sl (by decide +kernel) (by decide +kernel)⟩
abbrev c_CP_plannedShares : ByteArray := prog_1_method_19_code
def y_CP_plannedShares : MethodName := ⟨"ChargePlans", "plannedShares", "(II[I)J"⟩
abbrev w_CP_plannedShares : Cond := .code y_CP_plannedShares c_CP_plannedShares 9 (some .long)
set_option maxRecDepth 20000 in
theorem k_CP_plannedShares : tk_CV y_CP_plannedShares w_CP_plannedShares 9 3 := ⟨⟨tk_isC_code, tk_ac 490 rfl (by decide +kernel), tk_at 1 (by decide +kernel) (by decide +kernel), by decide, by decide +kernel, by decide +kernel⟩, tk_at 489 (by decide +kernel) (by decide +kernel), tk_sl (by decide +kernel) (by decide +kernel)⟩
abbrev c_CP_commonDivisor : ByteArray := prog_1_method_20_code
def y_CP_commonDivisor : MethodName := ⟨"ChargePlans", "commonDivisor", "(JJ)J"⟩
abbrev w_CP_commonDivisor : Cond := .code y_CP_commonDivisor c_CP_commonDivisor 11 (some .long)
set_option maxRecDepth 20000 in
theorem k_CP_commonDivisor : tk_CS y_CP_commonDivisor w_CP_commonDivisor 11 2 := ⟨⟨tk_isC_code, tk_ac 493 rfl (by decide +kernel), tk_at 1 (by decide +kernel) (by decide +kernel), by decide, by decide +kernel, by decide +kernel⟩, tk_at 492 (by decide +kernel) (by decide +kernel)⟩
abbrev c_L_bound : ByteArray := method_14_code
def y_L_bound : MethodName := ⟨"ChargePlansLaw", "bound", "(LChargePlans;I[J)I"⟩
abbrev h_L_bound : List (Nat × Nat × Nat × Nat) := [(0, 8, 11, 21), (0, 8, 14, 31)]
abbrev w_L_bound : Cond := .codeWith y_L_bound c_L_bound 4 (some .int) h_L_bound
set_option maxRecDepth 20000 in
theorem k_L_bound : tk_CS y_L_bound w_L_bound 4 3 := ⟨⟨tk_isC_with, tk_ac 499 rfl (by decide +kernel), tk_at 0 (by decide +kernel) (by decide +kernel), by decide, by decide +kernel, by decide +kernel⟩, tk_at 498 (by decide +kernel) (by decide +kernel)⟩
abbrev c_CP_bound : ByteArray := prog_1_method_13_code
def y_CP_bound : MethodName := ⟨"ChargePlans", "bound", "(I)J"⟩
abbrev w_CP_bound : Cond := .code y_CP_bound c_CP_bound 9 (some .long)
set_option maxRecDepth 20000 in
theorem k_CP_bound : tk_CV y_CP_bound w_CP_bound 9 1 := ⟨⟨tk_isC_code, tk_ac 503 rfl (by decide +kernel), tk_at 1 (by decide +kernel) (by decide +kernel), by decide, by decide +kernel, by decide +kernel⟩, tk_at 501 (by decide +kernel) (by decide +kernel), tk_at 502 (by decide +kernel) (by decide +kernel)⟩
abbrev c_L_clash : ByteArray := method_15_code
def y_L_clash : MethodName := ⟨"ChargePlansLaw", "clash", "(LChargePlans;I[J)I"⟩
abbrev h_L_clash : List (Nat × Nat × Nat × Nat) := [(0, 9, 12, 21)]
abbrev w_L_clash : Cond := .codeWith y_L_clash c_L_clash 4 (some .int) h_L_clash
set_option maxRecDepth 20000 in
theorem k_L_clash : tk_CS y_L_clash w_L_clash 4 3 := ⟨⟨tk_isC_with, tk_ac 511 rfl (by decide +kernel), tk_at 0 (by decide +kernel) (by decide +kernel), by decide, by decide +kernel, by decide +kernel⟩, tk_at 510 (by decide +kernel) (by decide +kernel)⟩
abbrev c_CP_clash : ByteArray := prog_1_method_14_code
def y_CP_clash : MethodName := ⟨"ChargePlans", "clash", "(I)I"⟩
abbrev w_CP_clash : Cond := .code y_CP_clash c_CP_clash 2 (some .int)
set_option maxRecDepth 20000 in
theorem k_CP_clash : tk_CV y_CP_clash w_CP_clash 2 1 := ⟨⟨tk_isC_code, tk_ac 515 rfl (by decide +kernel), tk_at 1 (by decide +kernel) (by decide +kernel), by decide, by decide +kernel, by decide +kernel⟩, tk_at 513 (by decide +kernel) (by decide +kernel), tk_at 514 (by decide +kernel) (by decide +kernel)⟩
abbrev c_C_find : ByteArray := prog_2_method_2_code
def y_C_find : MethodName := ⟨"ChargePlans$Clashing", "find", "(LChargePlans$Goods;LChargePlans$Heats;I)I"⟩
abbrev w_C_find : Cond := .code y_C_find c_C_find 7 (some .int)
set_option maxRecDepth 20000 in
theorem k_C_find : tk_CV y_C_find w_C_find 7 3 := ⟨⟨tk_isC_code, tk_ac 519 rfl (by decide +kernel), tk_at 6 (by decide +kernel) (by decide +kernel), by decide, by decide +kernel, by decide +kernel⟩, tk_at 518 (by decide +kernel) (by decide +kernel), tk_sl (by decide +kernel) (by decide +kernel)⟩
abbrev c_C_walk : ByteArray := prog_2_method_3_code
def y_C_walk : MethodName := ⟨"ChargePlans$Clashing", "walk", "(I)V"⟩
abbrev w_C_walk : Cond := .code y_C_walk c_C_walk 3 none
set_option maxRecDepth 20000 in
theorem k_C_walk : tk_CV y_C_walk w_C_walk 3 1 := ⟨⟨tk_isC_code, tk_ac 524 rfl (by decide +kernel), tk_at 6 (by decide +kernel) (by decide +kernel), by decide, by decide +kernel, by decide +kernel⟩, tk_at 523 (by decide +kernel) (by decide +kernel), tk_sl (by decide +kernel) (by decide +kernel)⟩
abbrev c_C_someChargeHolds : ByteArray := prog_2_method_4_code
def y_C_someChargeHolds : MethodName := ⟨"ChargePlans$Clashing", "someChargeHolds", "(I)Z"⟩
abbrev w_C_someChargeHolds : Cond := .code y_C_someChargeHolds c_C_someChargeHolds 3 (some .boolean)
set_option maxRecDepth 20000 in
theorem k_C_someChargeHolds : tk_CV y_C_someChargeHolds w_C_someChargeHolds 3 1 := ⟨⟨tk_isC_code, tk_ac 531 rfl (by decide +kernel), tk_at 6 (by decide +kernel) (by decide +kernel), by decide, by decide +kernel, by decide +kernel⟩, tk_at 530 (by decide +kernel) (by decide +kernel), tk_sl (by decide +kernel) (by decide +kernel)⟩
abbrev c_L_take : ByteArray := method_16_code
def y_L_take : MethodName := ⟨"ChargePlansLaw", "take", "(LChargePlans;I[J)I"⟩
abbrev h_L_take : List (Nat × Nat × Nat × Nat) := [(0, 9, 12, 21), (0, 9, 15, 13), (0, 9, 18, 31)]
abbrev w_L_take : Cond := .codeWith y_L_take c_L_take 4 (some .int) h_L_take
set_option maxRecDepth 20000 in
theorem k_L_take : tk_CS y_L_take w_L_take 4 3 := ⟨⟨tk_isC_with, tk_ac 534 rfl (by decide +kernel), tk_at 0 (by decide +kernel) (by decide +kernel), by decide, by decide +kernel, by decide +kernel⟩, tk_at 533 (by decide +kernel) (by decide +kernel)⟩
abbrev c_CP_take : ByteArray := prog_1_method_15_code
def y_CP_take : MethodName := ⟨"ChargePlans", "take", "(I)I"⟩
abbrev w_CP_take : Cond := .code y_CP_take c_CP_take 3 (some .int)
set_option maxRecDepth 20000 in
theorem k_CP_take : tk_CV y_CP_take w_CP_take 3 1 := ⟨⟨tk_isC_code, tk_ac 538 rfl (by decide +kernel), tk_at 1 (by decide +kernel) (by decide +kernel), by decide, by decide +kernel, by decide +kernel⟩, tk_at 536 (by decide +kernel) (by decide +kernel), tk_at 537 (by decide +kernel) (by decide +kernel)⟩
abbrev c_CP_enoughLeft : ByteArray := prog_1_method_17_code
def y_CP_enoughLeft : MethodName := ⟨"ChargePlans", "enoughLeft", "(I)Z"⟩
abbrev w_CP_enoughLeft : Cond := .code y_CP_enoughLeft c_CP_enoughLeft 3 (some .boolean)
set_option maxRecDepth 20000 in
theorem k_CP_enoughLeft : tk_CV y_CP_enoughLeft w_CP_enoughLeft 3 1 := ⟨⟨tk_isC_code, tk_ac 542 rfl (by decide +kernel), tk_at 1 (by decide +kernel) (by decide +kernel), by decide, by decide +kernel, by decide +kernel⟩, tk_at 541 (by decide +kernel) (by decide +kernel), tk_sl (by decide +kernel) (by decide +kernel)⟩
abbrev c_L_stock : ByteArray := method_17_code
def y_L_stock : MethodName := ⟨"ChargePlansLaw", "stock", "(LChargePlans;I[J)I"⟩
abbrev h_L_stock : List (Nat × Nat × Nat × Nat) := [(0, 9, 12, 21)]
abbrev w_L_stock : Cond := .codeWith y_L_stock c_L_stock 4 (some .int) h_L_stock
set_option maxRecDepth 20000 in
theorem k_L_stock : tk_CS y_L_stock w_L_stock 4 3 := ⟨⟨tk_isC_with, tk_ac 545 rfl (by decide +kernel), tk_at 0 (by decide +kernel) (by decide +kernel), by decide, by decide +kernel, by decide +kernel⟩, tk_at 544 (by decide +kernel) (by decide +kernel)⟩
abbrev c_CP_stock : ByteArray := prog_1_method_16_code
def y_CP_stock : MethodName := ⟨"ChargePlans", "stock", "(I)I"⟩
abbrev w_CP_stock : Cond := .code y_CP_stock c_CP_stock 2 (some .int)
set_option maxRecDepth 20000 in
theorem k_CP_stock : tk_CV y_CP_stock w_CP_stock 2 1 := ⟨⟨tk_isC_code, tk_ac 549 rfl (by decide +kernel), tk_at 1 (by decide +kernel) (by decide +kernel), by decide, by decide +kernel, by decide +kernel⟩, tk_at 547 (by decide +kernel) (by decide +kernel), tk_at 548 (by decide +kernel) (by decide +kernel)⟩
abbrev c_M_init : ByteArray := prog_8_method_1_code
def y_M_init : MethodName := ⟨"ChargePlansModel", "<init>", "()V"⟩
abbrev w_M_init : Cond := .code y_M_init c_M_init 1 none
set_option maxRecDepth 20000 in
theorem k_M_init : tk_CI y_M_init w_M_init 1 0 := ⟨⟨tk_isC_code, tk_ac 554 rfl (by decide +kernel), tk_at 7 (by decide +kernel) (by decide +kernel), by decide, by decide +kernel, by decide +kernel⟩, tk_at 553 (by decide +kernel) (by decide +kernel), rfl, _, rfl⟩
abbrev c_M_thrown : ByteArray := prog_8_method_2_code
def y_M_thrown : MethodName := ⟨"ChargePlansModel", "thrown", "()I"⟩
abbrev w_M_thrown : Cond := .code y_M_thrown c_M_thrown 1 (some .int)
set_option maxRecDepth 20000 in
theorem k_M_thrown : tk_CV y_M_thrown w_M_thrown 1 0 := ⟨⟨tk_isC_code, tk_ac 624 rfl (by decide +kernel), tk_at 7 (by decide +kernel) (by decide +kernel), by decide, by decide +kernel, by decide +kernel⟩, tk_at 622 (by decide +kernel) (by decide +kernel), tk_at 623 (by decide +kernel) (by decide +kernel)⟩
abbrev c_M_good : ByteArray := prog_8_method_7_code
def y_M_good : MethodName := ⟨"ChargePlansModel", "good", "(III)I"⟩
abbrev w_M_good : Cond := .code y_M_good c_M_good 4 (some .int)
set_option maxRecDepth 20000 in
theorem k_M_good : tk_CV y_M_good w_M_good 4 3 := ⟨⟨tk_isC_code, tk_ac 628 rfl (by decide +kernel), tk_at 7 (by decide +kernel) (by decide +kernel), by decide, by decide +kernel, by decide +kernel⟩, tk_at 626 (by decide +kernel) (by decide +kernel), tk_at 627 (by decide +kernel) (by decide +kernel)⟩
abbrev c_M_in : ByteArray := prog_8_method_4_code
def y_M_in : MethodName := ⟨"ChargePlansModel", "in", "(JJJ)Z"⟩
abbrev w_M_in : Cond := .code y_M_in c_M_in 6 (some .boolean)
set_option maxRecDepth 20000 in
theorem k_M_in : tk_CS y_M_in w_M_in 6 3 := ⟨⟨tk_isC_code, tk_ac 632 rfl (by decide +kernel), tk_at 7 (by decide +kernel) (by decide +kernel), by decide, by decide +kernel, by decide +kernel⟩, tk_at 631 (by decide +kernel) (by decide +kernel)⟩
abbrev c_M_throwing : ByteArray := prog_8_method_3_code
def y_M_throwing : MethodName := ⟨"ChargePlansModel", "throwing", "(ZZZ)Z"⟩
abbrev w_M_throwing : Cond := .code y_M_throwing c_M_throwing 4 (some .boolean)
set_option maxRecDepth 20000 in
theorem k_M_throwing : tk_CV y_M_throwing w_M_throwing 4 3 := ⟨⟨tk_isC_code, tk_ac 638 rfl (by decide +kernel), tk_at 7 (by decide +kernel) (by decide +kernel), by decide, by decide +kernel, by decide +kernel⟩, tk_at 637 (by decide +kernel) (by decide +kernel), tk_sl (by decide +kernel) (by decide +kernel)⟩
abbrev c_M_element : ByteArray := prog_8_method_9_code
def y_M_element : MethodName := ⟨"ChargePlansModel", "element", "(IIII)V"⟩
abbrev w_M_element : Cond := .code y_M_element c_M_element 5 none
set_option maxRecDepth 20000 in
theorem k_M_element : tk_CV y_M_element w_M_element 5 4 := ⟨⟨tk_isC_code, tk_ac 642 rfl (by decide +kernel), tk_at 7 (by decide +kernel) (by decide +kernel), by decide, by decide +kernel, by decide +kernel⟩, tk_at 640 (by decide +kernel) (by decide +kernel), tk_at 641 (by decide +kernel) (by decide +kernel)⟩
abbrev c_M_isGood : ByteArray := prog_8_method_5_code
def y_M_isGood : MethodName := ⟨"ChargePlansModel", "isGood", "(I)Z"⟩
abbrev w_M_isGood : Cond := .code y_M_isGood c_M_isGood 2 (some .boolean)
set_option maxRecDepth 20000 in
theorem k_M_isGood : tk_CV y_M_isGood w_M_isGood 2 1 := ⟨⟨tk_isC_code, tk_ac 646 rfl (by decide +kernel), tk_at 7 (by decide +kernel) (by decide +kernel), by decide, by decide +kernel, by decide +kernel⟩, tk_at 645 (by decide +kernel) (by decide +kernel), tk_sl (by decide +kernel) (by decide +kernel)⟩
abbrev c_M_isSpan : ByteArray := prog_8_method_8_code
def y_M_isSpan : MethodName := ⟨"ChargePlansModel", "isSpan", "(II)Z"⟩
abbrev w_M_isSpan : Cond := .code y_M_isSpan c_M_isSpan 2 (some .boolean)
set_option maxRecDepth 20000 in
theorem k_M_isSpan : tk_CS y_M_isSpan w_M_isSpan 2 2 := ⟨⟨tk_isC_code, tk_ac 650 rfl (by decide +kernel), tk_at 7 (by decide +kernel) (by decide +kernel), by decide, by decide +kernel, by decide +kernel⟩, tk_at 649 (by decide +kernel) (by decide +kernel)⟩
abbrev c_M_limit : ByteArray := prog_8_method_10_code
def y_M_limit : MethodName := ⟨"ChargePlansModel", "limit", "(II)V"⟩
abbrev w_M_limit : Cond := .code y_M_limit c_M_limit 3 none
set_option maxRecDepth 20000 in
theorem k_M_limit : tk_CV y_M_limit w_M_limit 3 2 := ⟨⟨tk_isC_code, tk_ac 655 rfl (by decide +kernel), tk_at 7 (by decide +kernel) (by decide +kernel), by decide, by decide +kernel, by decide +kernel⟩, tk_at 653 (by decide +kernel) (by decide +kernel), tk_at 654 (by decide +kernel) (by decide +kernel)⟩
abbrev c_M_arrive : ByteArray := prog_8_method_11_code
def y_M_arrive : MethodName := ⟨"ChargePlansModel", "arrive", "(II)I"⟩
abbrev w_M_arrive : Cond := .code y_M_arrive c_M_arrive 4 (some .int)
set_option maxRecDepth 20000 in
theorem k_M_arrive : tk_CV y_M_arrive w_M_arrive 4 2 := ⟨⟨tk_isC_code, tk_ac 659 rfl (by decide +kernel), tk_at 7 (by decide +kernel) (by decide +kernel), by decide, by decide +kernel, by decide +kernel⟩, tk_at 657 (by decide +kernel) (by decide +kernel), tk_at 658 (by decide +kernel) (by decide +kernel)⟩
abbrev c_M_stock : ByteArray := prog_8_method_12_code
def y_M_stock : MethodName := ⟨"ChargePlansModel", "stock", "(I)I"⟩
abbrev w_M_stock : Cond := .code y_M_stock c_M_stock 2 (some .int)
set_option maxRecDepth 20000 in
theorem k_M_stock : tk_CV y_M_stock w_M_stock 2 1 := ⟨⟨tk_isC_code, tk_ac 663 rfl (by decide +kernel), tk_at 7 (by decide +kernel) (by decide +kernel), by decide, by decide +kernel, by decide +kernel⟩, tk_at 661 (by decide +kernel) (by decide +kernel), tk_at 662 (by decide +kernel) (by decide +kernel)⟩
abbrev c_M_heat : ByteArray := prog_8_method_13_code
def y_M_heat : MethodName := ⟨"ChargePlansModel", "heat", "(II)I"⟩
abbrev w_M_heat : Cond := .code y_M_heat c_M_heat 4 (some .int)
set_option maxRecDepth 20000 in
theorem k_M_heat : tk_CV y_M_heat w_M_heat 4 2 := ⟨⟨tk_isC_code, tk_ac 667 rfl (by decide +kernel), tk_at 7 (by decide +kernel) (by decide +kernel), by decide, by decide +kernel, by decide +kernel⟩, tk_at 665 (by decide +kernel) (by decide +kernel), tk_at 666 (by decide +kernel) (by decide +kernel)⟩
abbrev c_M_span : ByteArray := prog_8_method_14_code
def y_M_span : MethodName := ⟨"ChargePlansModel", "span", "(IIII)V"⟩
abbrev w_M_span : Cond := .code y_M_span c_M_span 5 none
set_option maxRecDepth 20000 in
theorem k_M_span : tk_CV y_M_span w_M_span 5 4 := ⟨⟨tk_isC_code, tk_ac 671 rfl (by decide +kernel), tk_at 7 (by decide +kernel) (by decide +kernel), by decide, by decide +kernel, by decide +kernel⟩, tk_at 669 (by decide +kernel) (by decide +kernel), tk_at 670 (by decide +kernel) (by decide +kernel)⟩
abbrev c_M_isHeat : ByteArray := prog_8_method_6_code
def y_M_isHeat : MethodName := ⟨"ChargePlansModel", "isHeat", "(I)Z"⟩
abbrev w_M_isHeat : Cond := .code y_M_isHeat c_M_isHeat 2 (some .boolean)
set_option maxRecDepth 20000 in
theorem k_M_isHeat : tk_CV y_M_isHeat w_M_isHeat 2 1 := ⟨⟨tk_isC_code, tk_ac 675 rfl (by decide +kernel), tk_at 7 (by decide +kernel) (by decide +kernel), by decide, by decide +kernel, by decide +kernel⟩, tk_at 674 (by decide +kernel) (by decide +kernel), tk_sl (by decide +kernel) (by decide +kernel)⟩
abbrev c_M_most : ByteArray := prog_8_method_15_code
def y_M_most : MethodName := ⟨"ChargePlansModel", "most", "(II)V"⟩
abbrev w_M_most : Cond := .code y_M_most c_M_most 3 none
set_option maxRecDepth 20000 in
theorem k_M_most : tk_CV y_M_most w_M_most 3 2 := ⟨⟨tk_isC_code, tk_ac 679 rfl (by decide +kernel), tk_at 7 (by decide +kernel) (by decide +kernel), by decide, by decide +kernel, by decide +kernel⟩, tk_at 677 (by decide +kernel) (by decide +kernel), tk_at 678 (by decide +kernel) (by decide +kernel)⟩
abbrev c_M_plan : ByteArray := prog_8_method_20_code
def y_M_plan : MethodName := ⟨"ChargePlansModel", "plan", "(II)I"⟩
abbrev w_M_plan : Cond := .code y_M_plan c_M_plan 5 (some .int)
set_option maxRecDepth 20000 in
theorem k_M_plan : tk_CV y_M_plan w_M_plan 5 2 := ⟨⟨tk_isC_code, tk_ac 684 rfl (by decide +kernel), tk_at 7 (by decide +kernel) (by decide +kernel), by decide, by decide +kernel, by decide +kernel⟩, tk_at 682 (by decide +kernel) (by decide +kernel), tk_at 683 (by decide +kernel) (by decide +kernel)⟩
abbrev c_M_top : ByteArray := prog_8_method_16_code
def y_M_top : MethodName := ⟨"ChargePlansModel", "top", "(I)I"⟩
abbrev w_M_top : Cond := .code y_M_top c_M_top 2 (some .int)
set_option maxRecDepth 20000 in
theorem k_M_top : tk_CV y_M_top w_M_top 2 1 := ⟨⟨tk_isC_code, tk_ac 688 rfl (by decide +kernel), tk_at 7 (by decide +kernel) (by decide +kernel), by decide, by decide +kernel, by decide +kernel⟩, tk_at 687 (by decide +kernel) (by decide +kernel), tk_sl (by decide +kernel) (by decide +kernel)⟩
abbrev c_M_sum : ByteArray := prog_8_method_17_code
def y_M_sum : MethodName := ⟨"ChargePlansModel", "sum", "(II)I"⟩
abbrev w_M_sum : Cond := .code y_M_sum c_M_sum 5 (some .int)
set_option maxRecDepth 20000 in
theorem k_M_sum : tk_CV y_M_sum w_M_sum 5 2 := ⟨⟨tk_isC_code, tk_ac 692 rfl (by decide +kernel), tk_at 7 (by decide +kernel) (by decide +kernel), by decide, by decide +kernel, by decide +kernel⟩, tk_at 691 (by decide +kernel) (by decide +kernel), tk_sl (by decide +kernel) (by decide +kernel)⟩
abbrev c_M_broken : ByteArray := prog_8_method_18_code
def y_M_broken : MethodName := ⟨"ChargePlansModel", "broken", "(I)I"⟩
abbrev w_M_broken : Cond := .code y_M_broken c_M_broken 10 (some .int)
set_option maxRecDepth 20000 in
theorem k_M_broken : tk_CV y_M_broken w_M_broken 10 1 := ⟨⟨tk_isC_code, tk_ac 696 rfl (by decide +kernel), tk_at 7 (by decide +kernel) (by decide +kernel), by decide, by decide +kernel, by decide +kernel⟩, tk_at 695 (by decide +kernel) (by decide +kernel), tk_sl (by decide +kernel) (by decide +kernel)⟩
abbrev c_M_keep : ByteArray := prog_8_method_19_code
def y_M_keep : MethodName := ⟨"ChargePlansModel", "keep", "(I)V"⟩
abbrev w_M_keep : Cond := .code y_M_keep c_M_keep 3 none
set_option maxRecDepth 20000 in
theorem k_M_keep : tk_CV y_M_keep w_M_keep 3 1 := ⟨⟨tk_isC_code, tk_ac 700 rfl (by decide +kernel), tk_at 7 (by decide +kernel) (by decide +kernel), by decide, by decide +kernel, by decide +kernel⟩, tk_at 699 (by decide +kernel) (by decide +kernel), tk_sl (by decide +kernel) (by decide +kernel)⟩
abbrev c_M_planned : ByteArray := prog_8_method_21_code
def y_M_planned : MethodName := ⟨"ChargePlansModel", "planned", "(I)I"⟩
abbrev w_M_planned : Cond := .code y_M_planned c_M_planned 2 (some .int)
set_option maxRecDepth 20000 in
theorem k_M_planned : tk_CV y_M_planned w_M_planned 2 1 := ⟨⟨tk_isC_code, tk_ac 704 rfl (by decide +kernel), tk_at 7 (by decide +kernel) (by decide +kernel), by decide, by decide +kernel, by decide +kernel⟩, tk_at 702 (by decide +kernel) (by decide +kernel), tk_at 703 (by decide +kernel) (by decide +kernel)⟩
abbrev c_M_amount : ByteArray := prog_8_method_23_code
def y_M_amount : MethodName := ⟨"ChargePlansModel", "amount", "(II)I"⟩
abbrev w_M_amount : Cond := .code y_M_amount c_M_amount 3 (some .int)
set_option maxRecDepth 20000 in
theorem k_M_amount : tk_CV y_M_amount w_M_amount 3 2 := ⟨⟨tk_isC_code, tk_ac 708 rfl (by decide +kernel), tk_at 7 (by decide +kernel) (by decide +kernel), by decide, by decide +kernel, by decide +kernel⟩, tk_at 706 (by decide +kernel) (by decide +kernel), tk_at 707 (by decide +kernel) (by decide +kernel)⟩
abbrev c_M_hasPlan : ByteArray := prog_8_method_22_code
def y_M_hasPlan : MethodName := ⟨"ChargePlansModel", "hasPlan", "(I)Z"⟩
abbrev w_M_hasPlan : Cond := .code y_M_hasPlan c_M_hasPlan 2 (some .boolean)
set_option maxRecDepth 20000 in
theorem k_M_hasPlan : tk_CV y_M_hasPlan w_M_hasPlan 2 1 := ⟨⟨tk_isC_code, tk_ac 712 rfl (by decide +kernel), tk_at 7 (by decide +kernel) (by decide +kernel), by decide, by decide +kernel, by decide +kernel⟩, tk_at 711 (by decide +kernel) (by decide +kernel), tk_sl (by decide +kernel) (by decide +kernel)⟩
abbrev c_M_worst : ByteArray := prog_8_method_25_code
def y_M_worst : MethodName := ⟨"ChargePlansModel", "worst", "(IIII)J"⟩
abbrev w_M_worst : Cond := .code y_M_worst c_M_worst 13 (some .long)
set_option maxRecDepth 20000 in
theorem k_M_worst : tk_CV y_M_worst w_M_worst 13 4 := ⟨⟨tk_isC_code, tk_ac 716 rfl (by decide +kernel), tk_at 7 (by decide +kernel) (by decide +kernel), by decide, by decide +kernel, by decide +kernel⟩, tk_at 714 (by decide +kernel) (by decide +kernel), tk_at 715 (by decide +kernel) (by decide +kernel)⟩
abbrev c_M_common : ByteArray := prog_8_method_24_code
def y_M_common : MethodName := ⟨"ChargePlansModel", "common", "(JJ)J"⟩
abbrev w_M_common : Cond := .code y_M_common c_M_common 10 (some .long)
set_option maxRecDepth 20000 in
theorem k_M_common : tk_CS y_M_common w_M_common 10 2 := ⟨⟨tk_isC_code, tk_ac 719 rfl (by decide +kernel), tk_at 7 (by decide +kernel) (by decide +kernel), by decide, by decide +kernel, by decide +kernel⟩, tk_at 718 (by decide +kernel) (by decide +kernel)⟩
abbrev c_M_bound : ByteArray := prog_8_method_26_code
def y_M_bound : MethodName := ⟨"ChargePlansModel", "bound", "(I)J"⟩
abbrev w_M_bound : Cond := .code y_M_bound c_M_bound 5 (some .long)
set_option maxRecDepth 20000 in
theorem k_M_bound : tk_CV y_M_bound w_M_bound 5 1 := ⟨⟨tk_isC_code, tk_ac 723 rfl (by decide +kernel), tk_at 7 (by decide +kernel) (by decide +kernel), by decide, by decide +kernel, by decide +kernel⟩, tk_at 721 (by decide +kernel) (by decide +kernel), tk_at 722 (by decide +kernel) (by decide +kernel)⟩
abbrev c_M_clash : ByteArray := prog_8_method_29_code
def y_M_clash : MethodName := ⟨"ChargePlansModel", "clash", "(I)I"⟩
abbrev w_M_clash : Cond := .code y_M_clash c_M_clash 4 (some .int)
set_option maxRecDepth 20000 in
theorem k_M_clash : tk_CV y_M_clash w_M_clash 4 1 := ⟨⟨tk_isC_code, tk_ac 727 rfl (by decide +kernel), tk_at 7 (by decide +kernel) (by decide +kernel), by decide, by decide +kernel, by decide +kernel⟩, tk_at 725 (by decide +kernel) (by decide +kernel), tk_at 726 (by decide +kernel) (by decide +kernel)⟩
abbrev c_M_lookAtAll : ByteArray := prog_8_method_27_code
def y_M_lookAtAll : MethodName := ⟨"ChargePlansModel", "lookAtAll", "(I)V"⟩
abbrev w_M_lookAtAll : Cond := .code y_M_lookAtAll c_M_lookAtAll 4 none
set_option maxRecDepth 20000 in
theorem k_M_lookAtAll : tk_CV y_M_lookAtAll w_M_lookAtAll 4 1 := ⟨⟨tk_isC_code, tk_ac 731 rfl (by decide +kernel), tk_at 7 (by decide +kernel) (by decide +kernel), by decide, by decide +kernel, by decide +kernel⟩, tk_at 730 (by decide +kernel) (by decide +kernel), tk_sl (by decide +kernel) (by decide +kernel)⟩
abbrev c_M_isSome : ByteArray := prog_8_method_28_code
def y_M_isSome : MethodName := ⟨"ChargePlansModel", "isSome", "(I)Z"⟩
abbrev w_M_isSome : Cond := .code y_M_isSome c_M_isSome 4 (some .boolean)
set_option maxRecDepth 20000 in
theorem k_M_isSome : tk_CV y_M_isSome w_M_isSome 4 1 := ⟨⟨tk_isC_code, tk_ac 735 rfl (by decide +kernel), tk_at 7 (by decide +kernel) (by decide +kernel), by decide, by decide +kernel, by decide +kernel⟩, tk_at 734 (by decide +kernel) (by decide +kernel), tk_sl (by decide +kernel) (by decide +kernel)⟩
abbrev c_M_take : ByteArray := prog_8_method_30_code
def y_M_take : MethodName := ⟨"ChargePlansModel", "take", "(I)I"⟩
abbrev w_M_take : Cond := .code y_M_take c_M_take 5 (some .int)
set_option maxRecDepth 20000 in
theorem k_M_take : tk_CV y_M_take w_M_take 5 1 := ⟨⟨tk_isC_code, tk_ac 739 rfl (by decide +kernel), tk_at 7 (by decide +kernel) (by decide +kernel), by decide, by decide +kernel, by decide +kernel⟩, tk_at 737 (by decide +kernel) (by decide +kernel), tk_at 738 (by decide +kernel) (by decide +kernel)⟩
theorem l_L_69 : tk_ML "ChargePlansLaw" 69 y_CP_init := Or.inl (tk_at 18 (by decide +kernel) (by decide +kernel))
theorem l_CP_9 : tk_ML "ChargePlans" 9 y_G_init := Or.inr ⟨"ChargePlans", tk_at 26 (by decide +kernel) (by decide +kernel)⟩
theorem l_CP_18 : tk_ML "ChargePlans" 18 y_H_init := Or.inr ⟨"ChargePlans", tk_at 67 (by decide +kernel) (by decide +kernel)⟩
theorem l_CP_25 : tk_ML "ChargePlans" 25 y_P_init := Or.inr ⟨"ChargePlans", tk_at 110 (by decide +kernel) (by decide +kernel)⟩
theorem l_P_11 : tk_ML "ChargePlans$Planning" 11 y_S_init := Or.inr ⟨"ChargePlans", tk_at 116 (by decide +kernel) (by decide +kernel)⟩
theorem l_CP_32 : tk_ML "ChargePlans" 32 y_C_init := Or.inr ⟨"ChargePlans", tk_at 169 (by decide +kernel) (by decide +kernel)⟩
theorem l_C_11 : tk_ML "ChargePlans$Clashing" 11 y_S_init := Or.inr ⟨"ChargePlans", tk_at 174 (by decide +kernel) (by decide +kernel)⟩
theorem l_L_73 : tk_ML "ChargePlansLaw" 73 y_L_good := Or.inl (tk_at 199 (by decide +kernel) (by decide +kernel))
theorem l_L_7 : tk_ML "ChargePlansLaw" 7 y_CP_good := Or.inl (tk_at 204 (by decide +kernel) (by decide +kernel))
theorem l_CP_41 : tk_ML "ChargePlans" 41 y_CP_requireTurn := Or.inl (tk_at 208 (by decide +kernel) (by decide +kernel))
theorem l_CP_45 : tk_ML "ChargePlans" 45 y_CP_requireRange := Or.inl (tk_at 280 (by decide +kernel) (by decide +kernel))
theorem l_CP_72 : tk_ML "ChargePlans" 72 y_CP_requireArgument := Or.inl (tk_at 283 (by decide +kernel) (by decide +kernel))
theorem l_CP_50 : tk_ML "ChargePlans" 50 y_G_append := Or.inr ⟨"ChargePlans", tk_at 303 (by decide +kernel) (by decide +kernel)⟩
theorem l_L_83 : tk_ML "ChargePlansLaw" 83 y_L_element := Or.inl (tk_at 307 (by decide +kernel) (by decide +kernel))
theorem l_L_17 : tk_ML "ChargePlansLaw" 17 y_CP_element := Or.inl (tk_at 311 (by decide +kernel) (by decide +kernel))
theorem l_CP_54 : tk_ML "ChargePlans" 54 y_CP_requireIndex := Or.inl (tk_at 315 (by decide +kernel) (by decide +kernel))
theorem l_CP_58 : tk_ML "ChargePlans" 58 y_CP_requireSpan := Or.inl (tk_at 334 (by decide +kernel) (by decide +kernel))
theorem l_L_87 : tk_ML "ChargePlansLaw" 87 y_L_limit := Or.inl (tk_at 337 (by decide +kernel) (by decide +kernel))
theorem l_L_23 : tk_ML "ChargePlansLaw" 23 y_CP_limit := Or.inl (tk_at 340 (by decide +kernel) (by decide +kernel))
theorem l_L_91 : tk_ML "ChargePlansLaw" 91 y_L_arrive := Or.inl (tk_at 344 (by decide +kernel) (by decide +kernel))
theorem l_L_27 : tk_ML "ChargePlansLaw" 27 y_CP_arrive := Or.inl (tk_at 348 (by decide +kernel) (by decide +kernel))
theorem l_CP_78 : tk_ML "ChargePlans" 78 y_CP_requireMeaning := Or.inl (tk_at 352 (by decide +kernel) (by decide +kernel))
theorem l_L_95 : tk_ML "ChargePlansLaw" 95 y_L_heat := Or.inl (tk_at 371 (by decide +kernel) (by decide +kernel))
theorem l_L_33 : tk_ML "ChargePlansLaw" 33 y_CP_heat := Or.inl (tk_at 374 (by decide +kernel) (by decide +kernel))
theorem l_CP_82 : tk_ML "ChargePlans" 82 y_H_append := Or.inr ⟨"ChargePlans", tk_at 378 (by decide +kernel) (by decide +kernel)⟩
theorem l_L_98 : tk_ML "ChargePlansLaw" 98 y_L_span := Or.inl (tk_at 382 (by decide +kernel) (by decide +kernel))
theorem l_L_36 : tk_ML "ChargePlansLaw" 36 y_CP_span := Or.inl (tk_at 385 (by decide +kernel) (by decide +kernel))
theorem l_L_101 : tk_ML "ChargePlansLaw" 101 y_L_most := Or.inl (tk_at 389 (by decide +kernel) (by decide +kernel))
theorem l_L_39 : tk_ML "ChargePlansLaw" 39 y_CP_most := Or.inl (tk_at 392 (by decide +kernel) (by decide +kernel))
theorem l_L_104 : tk_ML "ChargePlansLaw" 104 y_L_plan := Or.inl (tk_at 396 (by decide +kernel) (by decide +kernel))
theorem l_L_42 : tk_ML "ChargePlansLaw" 42 y_CP_plan := Or.inl (tk_at 399 (by decide +kernel) (by decide +kernel))
theorem l_CP_90 : tk_ML "ChargePlans" 90 y_P_search := Or.inr ⟨"ChargePlans", tk_at 403 (by decide +kernel) (by decide +kernel)⟩
theorem l_P_25 : tk_ML "ChargePlans$Planning" 25 y_S_load := Or.inr ⟨"ChargePlans", tk_at 407 (by decide +kernel) (by decide +kernel)⟩
theorem l_S_41 : tk_ML "ChargePlans$Sums" 41 y_G_room := Or.inr ⟨"ChargePlans", tk_at 411 (by decide +kernel) (by decide +kernel)⟩
theorem l_S_50 : tk_ML "ChargePlans$Sums" 50 y_S_loadElements := Or.inl (tk_at 418 (by decide +kernel) (by decide +kernel))
theorem l_P_46 : tk_ML "ChargePlans$Planning" 46 y_P_tryNumbers := Or.inl (tk_at 422 (by decide +kernel) (by decide +kernel))
theorem l_P_53 : tk_ML "ChargePlans$Planning" 53 y_P_keepIfAllHold := Or.inl (tk_at 426 (by decide +kernel) (by decide +kernel))
theorem l_P_76 : tk_ML "ChargePlans$Planning" 76 y_S_broken := Or.inr ⟨"ChargePlans", tk_at 430 (by decide +kernel) (by decide +kernel)⟩
theorem l_P_72 : tk_ML "ChargePlans$Planning" 72 y_S_cents := Or.inr ⟨"ChargePlans", tk_at 434 (by decide +kernel) (by decide +kernel)⟩
theorem l_P_56 : tk_ML "ChargePlans$Planning" 56 y_S_settle := Or.inr ⟨"ChargePlans", tk_at 438 (by decide +kernel) (by decide +kernel)⟩
theorem l_P_62 : tk_ML "ChargePlans$Planning" 62 y_S_addBundle := Or.inr ⟨"ChargePlans", tk_at 442 (by decide +kernel) (by decide +kernel)⟩
theorem l_P_65 : tk_ML "ChargePlans$Planning" 65 y_P_givenUp := Or.inl (tk_at 446 (by decide +kernel) (by decide +kernel))
theorem l_P_69 : tk_ML "ChargePlans$Planning" 69 y_S_tooHeavy := Or.inr ⟨"ChargePlans", tk_at 450 (by decide +kernel) (by decide +kernel)⟩
theorem l_CP_100 : tk_ML "ChargePlans" 100 y_H_keepPlan := Or.inr ⟨"ChargePlans", tk_at 454 (by decide +kernel) (by decide +kernel)⟩
theorem l_L_107 : tk_ML "ChargePlansLaw" 107 y_L_planned := Or.inl (tk_at 458 (by decide +kernel) (by decide +kernel))
theorem l_L_45 : tk_ML "ChargePlansLaw" 45 y_CP_planned := Or.inl (tk_at 461 (by decide +kernel) (by decide +kernel))
theorem l_L_111 : tk_ML "ChargePlansLaw" 111 y_L_amount := Or.inl (tk_at 465 (by decide +kernel) (by decide +kernel))
theorem l_L_49 : tk_ML "ChargePlansLaw" 49 y_CP_amount := Or.inl (tk_at 468 (by decide +kernel) (by decide +kernel))
theorem l_CP_114 : tk_ML "ChargePlans" 114 y_H_hasPlan := Or.inr ⟨"ChargePlans", tk_at 472 (by decide +kernel) (by decide +kernel)⟩
theorem l_L_114 : tk_ML "ChargePlansLaw" 114 y_L_worst := Or.inl (tk_at 476 (by decide +kernel) (by decide +kernel))
theorem l_L_52 : tk_ML "ChargePlansLaw" 52 y_CP_worst := Or.inl (tk_at 479 (by decide +kernel) (by decide +kernel))
theorem l_CP_121 : tk_ML "ChargePlans" 121 y_CP_plannedKilos := Or.inl (tk_at 483 (by decide +kernel) (by decide +kernel))
theorem l_CP_125 : tk_ML "ChargePlans" 125 y_CP_plannedShares := Or.inl (tk_at 487 (by decide +kernel) (by decide +kernel))
theorem l_CP_129 : tk_ML "ChargePlans" 129 y_CP_commonDivisor := Or.inl (tk_at 491 (by decide +kernel) (by decide +kernel))
theorem l_L_118 : tk_ML "ChargePlansLaw" 118 y_L_bound := Or.inl (tk_at 497 (by decide +kernel) (by decide +kernel))
theorem l_L_56 : tk_ML "ChargePlansLaw" 56 y_CP_bound := Or.inl (tk_at 500 (by decide +kernel) (by decide +kernel))
theorem l_CP_138 : tk_ML "ChargePlans" 138 y_G_room := Or.inr ⟨"ChargePlans", tk_at 505 (by decide +kernel) (by decide +kernel)⟩
theorem l_L_121 : tk_ML "ChargePlansLaw" 121 y_L_clash := Or.inl (tk_at 509 (by decide +kernel) (by decide +kernel))
theorem l_L_60 : tk_ML "ChargePlansLaw" 60 y_CP_clash := Or.inl (tk_at 512 (by decide +kernel) (by decide +kernel))
theorem l_CP_153 : tk_ML "ChargePlans" 153 y_C_find := Or.inr ⟨"ChargePlans", tk_at 516 (by decide +kernel) (by decide +kernel)⟩
theorem l_C_22 : tk_ML "ChargePlans$Clashing" 22 y_S_load := Or.inr ⟨"ChargePlans", tk_at 520 (by decide +kernel) (by decide +kernel)⟩
theorem l_C_30 : tk_ML "ChargePlans$Clashing" 30 y_C_walk := Or.inl (tk_at 521 (by decide +kernel) (by decide +kernel))
theorem l_C_42 : tk_ML "ChargePlans$Clashing" 42 y_S_broken := Or.inr ⟨"ChargePlans", tk_at 525 (by decide +kernel) (by decide +kernel)⟩
theorem l_C_46 : tk_ML "ChargePlans$Clashing" 46 y_S_settle := Or.inr ⟨"ChargePlans", tk_at 526 (by decide +kernel) (by decide +kernel)⟩
theorem l_C_53 : tk_ML "ChargePlans$Clashing" 53 y_S_addBundle := Or.inr ⟨"ChargePlans", tk_at 527 (by decide +kernel) (by decide +kernel)⟩
theorem l_C_34 : tk_ML "ChargePlans$Clashing" 34 y_C_someChargeHolds := Or.inl (tk_at 528 (by decide +kernel) (by decide +kernel))
theorem l_L_124 : tk_ML "ChargePlansLaw" 124 y_L_take := Or.inl (tk_at 532 (by decide +kernel) (by decide +kernel))
theorem l_L_63 : tk_ML "ChargePlansLaw" 63 y_CP_take := Or.inl (tk_at 535 (by decide +kernel) (by decide +kernel))
theorem l_CP_157 : tk_ML "ChargePlans" 157 y_CP_enoughLeft := Or.inl (tk_at 539 (by decide +kernel) (by decide +kernel))
theorem l_L_127 : tk_ML "ChargePlansLaw" 127 y_L_stock := Or.inl (tk_at 543 (by decide +kernel) (by decide +kernel))
theorem l_L_66 : tk_ML "ChargePlansLaw" 66 y_CP_stock := Or.inl (tk_at 546 (by decide +kernel) (by decide +kernel))
theorem l_L_72 : tk_ML "ChargePlansLaw" 72 y_M_init := Or.inl (tk_at 552 (by decide +kernel) (by decide +kernel))
theorem l_L_79 : tk_ML "ChargePlansLaw" 79 y_M_thrown := Or.inl (tk_at 621 (by decide +kernel) (by decide +kernel))
theorem l_L_78 : tk_ML "ChargePlansLaw" 78 y_M_good := Or.inl (tk_at 625 (by decide +kernel) (by decide +kernel))
theorem l_M_63 : tk_ML "ChargePlansModel" 63 y_M_in := Or.inl (tk_at 630 (by decide +kernel) (by decide +kernel))
theorem l_M_76 : tk_ML "ChargePlansModel" 76 y_M_throwing := Or.inl (tk_at 635 (by decide +kernel) (by decide +kernel))
theorem l_L_86 : tk_ML "ChargePlansLaw" 86 y_M_element := Or.inl (tk_at 639 (by decide +kernel) (by decide +kernel))
theorem l_M_82 : tk_ML "ChargePlansModel" 82 y_M_isGood := Or.inl (tk_at 643 (by decide +kernel) (by decide +kernel))
theorem l_M_88 : tk_ML "ChargePlansModel" 88 y_M_isSpan := Or.inl (tk_at 648 (by decide +kernel) (by decide +kernel))
theorem l_L_90 : tk_ML "ChargePlansLaw" 90 y_M_limit := Or.inl (tk_at 652 (by decide +kernel) (by decide +kernel))
theorem l_L_94 : tk_ML "ChargePlansLaw" 94 y_M_arrive := Or.inl (tk_at 656 (by decide +kernel) (by decide +kernel))
theorem l_L_129 : tk_ML "ChargePlansLaw" 129 y_M_stock := Or.inl (tk_at 660 (by decide +kernel) (by decide +kernel))
theorem l_L_97 : tk_ML "ChargePlansLaw" 97 y_M_heat := Or.inl (tk_at 664 (by decide +kernel) (by decide +kernel))
theorem l_L_100 : tk_ML "ChargePlansLaw" 100 y_M_span := Or.inl (tk_at 668 (by decide +kernel) (by decide +kernel))
theorem l_M_92 : tk_ML "ChargePlansModel" 92 y_M_isHeat := Or.inl (tk_at 672 (by decide +kernel) (by decide +kernel))
theorem l_L_103 : tk_ML "ChargePlansLaw" 103 y_M_most := Or.inl (tk_at 676 (by decide +kernel) (by decide +kernel))
theorem l_L_106 : tk_ML "ChargePlansLaw" 106 y_M_plan := Or.inl (tk_at 681 (by decide +kernel) (by decide +kernel))
theorem l_M_111 : tk_ML "ChargePlansModel" 111 y_M_top := Or.inl (tk_at 685 (by decide +kernel) (by decide +kernel))
theorem l_M_97 : tk_ML "ChargePlansModel" 97 y_M_sum := Or.inl (tk_at 689 (by decide +kernel) (by decide +kernel))
theorem l_M_115 : tk_ML "ChargePlansModel" 115 y_M_broken := Or.inl (tk_at 693 (by decide +kernel) (by decide +kernel))
theorem l_M_118 : tk_ML "ChargePlansModel" 118 y_M_keep := Or.inl (tk_at 697 (by decide +kernel) (by decide +kernel))
theorem l_L_110 : tk_ML "ChargePlansLaw" 110 y_M_planned := Or.inl (tk_at 701 (by decide +kernel) (by decide +kernel))
theorem l_L_113 : tk_ML "ChargePlansLaw" 113 y_M_amount := Or.inl (tk_at 705 (by decide +kernel) (by decide +kernel))
theorem l_M_122 : tk_ML "ChargePlansModel" 122 y_M_hasPlan := Or.inl (tk_at 709 (by decide +kernel) (by decide +kernel))
theorem l_L_117 : tk_ML "ChargePlansLaw" 117 y_M_worst := Or.inl (tk_at 713 (by decide +kernel) (by decide +kernel))
theorem l_M_125 : tk_ML "ChargePlansModel" 125 y_M_common := Or.inl (tk_at 717 (by decide +kernel) (by decide +kernel))
theorem l_L_120 : tk_ML "ChargePlansLaw" 120 y_M_bound := Or.inl (tk_at 720 (by decide +kernel) (by decide +kernel))
theorem l_L_123 : tk_ML "ChargePlansLaw" 123 y_M_clash := Or.inl (tk_at 724 (by decide +kernel) (by decide +kernel))
theorem l_M_129 : tk_ML "ChargePlansModel" 129 y_M_lookAtAll := Or.inl (tk_at 728 (by decide +kernel) (by decide +kernel))
theorem l_M_132 : tk_ML "ChargePlansModel" 132 y_M_isSome := Or.inl (tk_at 732 (by decide +kernel) (by decide +kernel))
theorem l_L_126 : tk_ML "ChargePlansLaw" 126 y_M_take := Or.inl (tk_at 736 (by decide +kernel) (by decide +kernel))
theorem nw_L_8 : tk_Nw "ChargePlansLaw" 8 0 4 [.null, .null, .null, .null] := ⟨R_CP, F_CP, t_CP, rfl, i_CP, t_CP_ok, tk_at 16 (by decide +kernel) (by decide +kernel), tk_at 17 (by decide +kernel) (by decide +kernel), tk_at 1 (by decide +kernel) (by decide +kernel), fun j hj => by (match j, hj with | 0, _ => rfl | 1, _ => rfl | 2, _ => rfl | 3, _ => rfl | j + 4, h => omega)⟩
theorem nw_CP_7 : tk_Nw "ChargePlans" 7 1 7 [.int 0, .null, .null, .null, .null, .null, .null] := ⟨R_G, F_G, t_G, rfl, i_G, t_G_ok, tk_at 24 (by decide +kernel) (by decide +kernel), tk_at 25 (by decide +kernel) (by decide +kernel), tk_at 2 (by decide +kernel) (by decide +kernel), fun j hj => by (match j, hj with | 0, _ => rfl | 1, _ => rfl | 2, _ => rfl | 3, _ => rfl | 4, _ => rfl | 5, _ => rfl | 6, _ => rfl | j + 7, h => omega)⟩
theorem nw_CP_16 : tk_Nw "ChargePlans" 16 2 8 [.int 0, .null, .null, .null, .null, .null, .null, .null] := ⟨R_H, F_H, t_H, rfl, i_H, t_H_ok, tk_at 65 (by decide +kernel) (by decide +kernel), tk_at 66 (by decide +kernel) (by decide +kernel), tk_at 3 (by decide +kernel) (by decide +kernel), fun j hj => by (match j, hj with | 0, _ => rfl | 1, _ => rfl | 2, _ => rfl | 3, _ => rfl | 4, _ => rfl | 5, _ => rfl | 6, _ => rfl | 7, _ => rfl | j + 8, h => omega)⟩
theorem nw_CP_23 : tk_Nw "ChargePlans" 23 3 8 [.null, .null, .null, .int 0, .int 0, .int 0, .int 0, .int 0] := ⟨R_P, F_P, t_P, rfl, i_P, t_P_ok, tk_at 108 (by decide +kernel) (by decide +kernel), tk_at 109 (by decide +kernel) (by decide +kernel), tk_at 4 (by decide +kernel) (by decide +kernel), fun j hj => by (match j, hj with | 0, _ => rfl | 1, _ => rfl | 2, _ => rfl | 3, _ => rfl | 4, _ => rfl | 5, _ => rfl | 6, _ => rfl | 7, _ => rfl | j + 8, h => omega)⟩
theorem nw_P_9 : tk_Nw "ChargePlans$Planning" 9 4 4 [.int 0, .null, .null, .null] := ⟨R_S, F_S, t_S, rfl, i_S, t_S_ok, tk_at 114 (by decide +kernel) (by decide +kernel), tk_at 115 (by decide +kernel) (by decide +kernel), tk_at 5 (by decide +kernel) (by decide +kernel), fun j hj => by (match j, hj with | 0, _ => rfl | 1, _ => rfl | 2, _ => rfl | 3, _ => rfl | j + 4, h => omega)⟩
theorem nw_CP_30 : tk_Nw "ChargePlans" 30 5 3 [.null, .null, .int 0] := ⟨R_C, F_C, t_C, rfl, i_C, t_C_ok, tk_at 167 (by decide +kernel) (by decide +kernel), tk_at 168 (by decide +kernel) (by decide +kernel), tk_at 6 (by decide +kernel) (by decide +kernel), fun j hj => by (match j, hj with | 0, _ => rfl | 1, _ => rfl | 2, _ => rfl | j + 3, h => omega)⟩
theorem nw_C_9 : tk_Nw "ChargePlans$Clashing" 9 4 4 [.int 0, .null, .null, .null] := ⟨R_S, F_S, t_S, rfl, i_S, t_S_ok, tk_at 173 (by decide +kernel) (by decide +kernel), tk_at 115 (by decide +kernel) (by decide +kernel), tk_at 5 (by decide +kernel) (by decide +kernel), fun j hj => by (match j, hj with | 0, _ => rfl | 1, _ => rfl | 2, _ => rfl | 3, _ => rfl | j + 4, h => omega)⟩
theorem nw_L_70 : tk_Nw "ChargePlansLaw" 70 6 21 [.int 0, .int 0, .null, .null, .null, .null, .null, .null, .int 0, .null, .null, .null, .null, .null, .null, .null, .int 0, .int 0, .int 0, .null, .null] := ⟨R_M, F_M, t_M, rfl, i_M, t_M_ok, tk_at 550 (by decide +kernel) (by decide +kernel), tk_at 551 (by decide +kernel) (by decide +kernel), tk_at 7 (by decide +kernel) (by decide +kernel), fun j hj => by (match j, hj with | 0, _ => rfl | 1, _ => rfl | 2, _ => rfl | 3, _ => rfl | 4, _ => rfl | 5, _ => rfl | 6, _ => rfl | 7, _ => rfl | 8, _ => rfl | 9, _ => rfl | 10, _ => rfl | 11, _ => rfl | 12, _ => rfl | 13, _ => rfl | 14, _ => rfl | 15, _ => rfl | 16, _ => rfl | 17, _ => rfl | 18, _ => rfl | 19, _ => rfl | 20, _ => rfl | j + 21, h => omega)⟩
theorem q_CP_49 : Cond.constant "ChargePlans" 49 (100000) ∈ tk_tbl := tk_at 302 (by decide +kernel) (by decide +kernel)
theorem q_CP_133 : Cond.constantLong "ChargePlans" 133 (-1) ∈ tk_tbl := tk_at 504 (by decide +kernel) (by decide +kernel)
theorem q_M_70 : Cond.constantLong "ChargePlansModel" 70 (1000) ∈ tk_tbl := tk_at 629 (by decide +kernel) (by decide +kernel)
theorem q_M_72 : Cond.constantLong "ChargePlansModel" 72 (100000) ∈ tk_tbl := tk_at 633 (by decide +kernel) (by decide +kernel)
theorem q_M_74 : Cond.constantLong "ChargePlansModel" 74 (6) ∈ tk_tbl := tk_at 634 (by decide +kernel) (by decide +kernel)
theorem q_M_86 : Cond.constantLong "ChargePlansModel" 86 (3) ∈ tk_tbl := tk_at 647 (by decide +kernel) (by decide +kernel)
theorem q_M_80 : Cond.constantLong "ChargePlansModel" 80 (10000) ∈ tk_tbl := tk_at 651 (by decide +kernel) (by decide +kernel)
theorem q_M_95 : Cond.constantLong "ChargePlansModel" 95 (30) ∈ tk_tbl := tk_at 680 (by decide +kernel) (by decide +kernel)
theorem a_int : Cond.arrayClass .int ∈ tk_tbl := tk_at 64 (by decide +kernel) (by decide +kernel)
theorem a_long : Cond.arrayClass .long ∈ tk_tbl := tk_at 185 (by decide +kernel) (by decide +kernel)
theorem a_boolean : Cond.arrayClass .boolean ∈ tk_tbl := tk_at 620 (by decide +kernel) (by decide +kernel)
theorem a_byte : Cond.arrayClass .byte ∈ tk_tbl := tk_at 279 (by decide +kernel) (by decide +kernel)
theorem o_CP : Cond.methodLink "ChargePlans" 1 Lib.objectInit ∈ tk_tbl := tk_at 21 (by decide +kernel) (by decide +kernel)
theorem o_G : Cond.methodLink "ChargePlans$Goods" 3 Lib.objectInit ∈ tk_tbl := tk_at 29 (by decide +kernel) (by decide +kernel)
theorem o_H : Cond.methodLink "ChargePlans$Heats" 3 Lib.objectInit ∈ tk_tbl := tk_at 70 (by decide +kernel) (by decide +kernel)
theorem o_P : Cond.methodLink "ChargePlans$Planning" 3 Lib.objectInit ∈ tk_tbl := tk_at 113 (by decide +kernel) (by decide +kernel)
theorem o_S : Cond.methodLink "ChargePlans$Sums" 3 Lib.objectInit ∈ tk_tbl := tk_at 119 (by decide +kernel) (by decide +kernel)
theorem o_C : Cond.methodLink "ChargePlans$Clashing" 3 Lib.objectInit ∈ tk_tbl := tk_at 172 (by decide +kernel) (by decide +kernel)
theorem o_M : Cond.methodLink "ChargePlansModel" 1 Lib.objectInit ∈ tk_tbl := tk_at 555 (by decide +kernel) (by decide +kernel)
theorem o_1 : Cond.instanceMethod Lib.objectInit ∈ tk_tbl := tk_at 22 (by decide +kernel) (by decide +kernel)
set_option maxRecDepth 20000 in
theorem o_2 : Cond.code Lib.objectInit ⟨#[0xb1]⟩ 1 none ∈ tk_tbl := tk_ac 23 rfl (by decide +kernel)
