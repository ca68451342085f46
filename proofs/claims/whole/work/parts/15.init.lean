/-! ===== constructors ===== -/
abbrev z0 : Ar := fun _ => 0
theorem m_S_initP {x0 x1 x2 x3 x4 x5 x6 x7 x8 x9 x10 x11 x12 x13 x14 x15 x16 : tk_E} : tk_M y_S_init w_S_init 1 3 137 [.ref 17] (x0 :: x1 :: x2 :: x3 :: x4 :: x5 :: x6 :: x7 :: x8 :: x9 :: x10 :: x11 :: x12 :: x13 :: x14 :: x15 :: x16 :: [.inr (4, [.int 0, .null, .null, .null])]) (tk_det (.inl none) (x0 :: x1 :: x2 :: x3 :: x4 :: x5 :: x6 :: x7 :: x8 :: x9 :: x10 :: x11 :: x12 :: x13 :: x14 :: x15 :: x16 :: [.inr (4, [.int 0, .ref 18, .ref 19, .ref 20]), ia 5 z0, ia 60 z0, ia 72 z0])) := by
  refine tk_M.of (lv := [some (.ref 17)]) (by decide) (Nat.le_of_ble_eq_true rfl) rfl ?_
  refine tk_aload_n (pc := 0) d_S_init_0 rfl ?_
  refine tk_objInit (pc := 1) d_S_init_1 o_S o_1 o_2 (Nat.le_of_ble_eq_true rfl) ?_
  refine tk_aload_n (pc := 4) d_S_init_4 rfl ?_
  refine tk_iconst (pc := 5) (v := 5) d_S_init_5 (by decide) ?_
  refine tk_newa (pc := 6) (t := 0) (N := 5) (a0 := (5, .inl (fun _ => 0))) d_S_init_6 a_int rfl rfl (fun _ => rfl) rfl (by decide) rfl rfl rfl (Nat.le_of_ble_eq_true rfl) (Nat.le_of_ble_eq_true rfl) ?_
  refine tk_putF (pc := 8) d_S_init_8 g_S_9 p_S_1 rfl rfl rfl rfl (Nat.le_of_ble_eq_true rfl) rfl ?_
  refine tk_aload_n (pc := 11) d_S_init_11 rfl ?_
  refine tk_bipush (pc := 12) (v := 60) d_S_init_12 (by decide) ?_
  refine tk_newa (pc := 14) (t := 0) (N := 60) (a0 := (60, .inl (fun _ => 0))) d_S_init_14 a_int rfl rfl (fun _ => rfl) rfl (by decide) rfl rfl rfl (Nat.le_of_ble_eq_true rfl) (Nat.le_of_ble_eq_true rfl) ?_
  refine tk_putF (pc := 16) d_S_init_16 g_S_15 p_S_2 rfl rfl rfl rfl (Nat.le_of_ble_eq_true rfl) rfl ?_
  refine tk_aload_n (pc := 19) d_S_init_19 rfl ?_
  refine tk_bipush (pc := 20) (v := 72) d_S_init_20 (by decide) ?_
  refine tk_newa (pc := 22) (t := 0) (N := 72) (a0 := (72, .inl (fun _ => 0))) d_S_init_22 a_int rfl rfl (fun _ => rfl) rfl (by decide) rfl rfl rfl (Nat.le_of_ble_eq_true rfl) (Nat.le_of_ble_eq_true rfl) ?_
  refine tk_putF (pc := 24) d_S_init_24 g_S_18 p_S_3 rfl rfl rfl rfl (Nat.le_of_ble_eq_true rfl) rfl ?_
  exact tk_return (pc := 27) d_S_init_27 rfl (Nat.le_of_ble_eq_true rfl) (Nat.le_of_ble_eq_true rfl) ⟨rfl, rfl⟩
theorem m_S_initC {x0 x1 x2 x3 x4 x5 x6 x7 x8 x9 x10 x11 x12 x13 x14 x15 x16 x17 x18 x19 x20 x21 x22 x23 : tk_E} : tk_M y_S_init w_S_init 1 3 137 [.ref 24] (x0 :: x1 :: x2 :: x3 :: x4 :: x5 :: x6 :: x7 :: x8 :: x9 :: x10 :: x11 :: x12 :: x13 :: x14 :: x15 :: x16 :: x17 :: x18 :: x19 :: x20 :: x21 :: x22 :: x23 :: [.inr (4, [.int 0, .null, .null, .null])]) (tk_det (.inl none) (x0 :: x1 :: x2 :: x3 :: x4 :: x5 :: x6 :: x7 :: x8 :: x9 :: x10 :: x11 :: x12 :: x13 :: x14 :: x15 :: x16 :: x17 :: x18 :: x19 :: x20 :: x21 :: x22 :: x23 :: [.inr (4, [.int 0, .ref 25, .ref 26, .ref 27]), ia 5 z0, ia 60 z0, ia 72 z0])) := by
  refine tk_M.of (lv := [some (.ref 24)]) (by decide) (Nat.le_of_ble_eq_true rfl) rfl ?_
  refine tk_aload_n (pc := 0) d_S_init_0 rfl ?_
  refine tk_objInit (pc := 1) d_S_init_1 o_S o_1 o_2 (Nat.le_of_ble_eq_true rfl) ?_
  refine tk_aload_n (pc := 4) d_S_init_4 rfl ?_
  refine tk_iconst (pc := 5) (v := 5) d_S_init_5 (by decide) ?_
  refine tk_newa (pc := 6) (t := 0) (N := 5) (a0 := (5, .inl (fun _ => 0))) d_S_init_6 a_int rfl rfl (fun _ => rfl) rfl (by decide) rfl rfl rfl (Nat.le_of_ble_eq_true rfl) (Nat.le_of_ble_eq_true rfl) ?_
  refine tk_putF (pc := 8) d_S_init_8 g_S_9 p_S_1 rfl rfl rfl rfl (Nat.le_of_ble_eq_true rfl) rfl ?_
  refine tk_aload_n (pc := 11) d_S_init_11 rfl ?_
  refine tk_bipush (pc := 12) (v := 60) d_S_init_12 (by decide) ?_
  refine tk_newa (pc := 14) (t := 0) (N := 60) (a0 := (60, .inl (fun _ => 0))) d_S_init_14 a_int rfl rfl (fun _ => rfl) rfl (by decide) rfl rfl rfl (Nat.le_of_ble_eq_true rfl) (Nat.le_of_ble_eq_true rfl) ?_
  refine tk_putF (pc := 16) d_S_init_16 g_S_15 p_S_2 rfl rfl rfl rfl (Nat.le_of_ble_eq_true rfl) rfl ?_
  refine tk_aload_n (pc := 19) d_S_init_19 rfl ?_
  refine tk_bipush (pc := 20) (v := 72) d_S_init_20 (by decide) ?_
  refine tk_newa (pc := 22) (t := 0) (N := 72) (a0 := (72, .inl (fun _ => 0))) d_S_init_22 a_int rfl rfl (fun _ => rfl) rfl (by decide) rfl rfl rfl (Nat.le_of_ble_eq_true rfl) (Nat.le_of_ble_eq_true rfl) ?_
  refine tk_putF (pc := 24) d_S_init_24 g_S_18 p_S_3 rfl rfl rfl rfl (Nat.le_of_ble_eq_true rfl) rfl ?_
  exact tk_return (pc := 27) d_S_init_27 rfl (Nat.le_of_ble_eq_true rfl) (Nat.le_of_ble_eq_true rfl) ⟨rfl, rfl⟩
theorem m_G_init {x0 : tk_E} : tk_M y_G_init w_G_init 1 6 60 [.ref 1] (x0 :: [.inr (1, [.int 0, .null, .null, .null, .null, .null, .null])]) (tk_det (.inl none) (x0 :: [.inr (1, [.int 0, .ref 2, .ref 3, .ref 4, .ref 5, .ref 6, .ref 7]), ia 5 z0, ia 5 z0, ia 5 z0, ia 5 z0, ia 20 z0, ia 20 z0])) := by
  refine tk_M.of (lv := [some (.ref 1)]) (by decide) (Nat.le_of_ble_eq_true rfl) rfl ?_
  refine tk_aload_n (pc := 0) d_G_init_0 rfl ?_
  refine tk_objInit (pc := 1) d_G_init_1 o_G o_1 o_2 (Nat.le_of_ble_eq_true rfl) ?_
  refine tk_aload_n (pc := 4) d_G_init_4 rfl ?_
  refine tk_iconst (pc := 5) (v := 5) d_G_init_5 (by decide) ?_
  refine tk_newa (pc := 6) (t := 0) (N := 5) (a0 := (5, .inl (fun _ => 0))) d_G_init_6 a_int rfl rfl (fun _ => rfl) rfl (by decide) rfl rfl rfl (Nat.le_of_ble_eq_true rfl) (Nat.le_of_ble_eq_true rfl) ?_
  refine tk_putF (pc := 8) d_G_init_8 g_G_9 p_G_1 rfl rfl rfl rfl (Nat.le_of_ble_eq_true rfl) rfl ?_
  refine tk_aload_n (pc := 11) d_G_init_11 rfl ?_
  refine tk_iconst (pc := 12) (v := 5) d_G_init_12 (by decide) ?_
  refine tk_newa (pc := 13) (t := 0) (N := 5) (a0 := (5, .inl (fun _ => 0))) d_G_init_13 a_int rfl rfl (fun _ => rfl) rfl (by decide) rfl rfl rfl (Nat.le_of_ble_eq_true rfl) (Nat.le_of_ble_eq_true rfl) ?_
  refine tk_putF (pc := 15) d_G_init_15 g_G_15 p_G_2 rfl rfl rfl rfl (Nat.le_of_ble_eq_true rfl) rfl ?_
  refine tk_aload_n (pc := 18) d_G_init_18 rfl ?_
  refine tk_iconst (pc := 19) (v := 5) d_G_init_19 (by decide) ?_
  refine tk_newa (pc := 20) (t := 0) (N := 5) (a0 := (5, .inl (fun _ => 0))) d_G_init_20 a_int rfl rfl (fun _ => rfl) rfl (by decide) rfl rfl rfl (Nat.le_of_ble_eq_true rfl) (Nat.le_of_ble_eq_true rfl) ?_
  refine tk_putF (pc := 22) d_G_init_22 g_G_18 p_G_3 rfl rfl rfl rfl (Nat.le_of_ble_eq_true rfl) rfl ?_
  refine tk_aload_n (pc := 25) d_G_init_25 rfl ?_
  refine tk_iconst (pc := 26) (v := 5) d_G_init_26 (by decide) ?_
  refine tk_newa (pc := 27) (t := 0) (N := 5) (a0 := (5, .inl (fun _ => 0))) d_G_init_27 a_int rfl rfl (fun _ => rfl) rfl (by decide) rfl rfl rfl (Nat.le_of_ble_eq_true rfl) (Nat.le_of_ble_eq_true rfl) ?_
  refine tk_putF (pc := 29) d_G_init_29 g_G_21 p_G_4 rfl rfl rfl rfl (Nat.le_of_ble_eq_true rfl) rfl ?_
  refine tk_aload_n (pc := 32) d_G_init_32 rfl ?_
  refine tk_bipush (pc := 33) (v := 20) d_G_init_33 (by decide) ?_
  refine tk_newa (pc := 35) (t := 0) (N := 20) (a0 := (20, .inl (fun _ => 0))) d_G_init_35 a_int rfl rfl (fun _ => rfl) rfl (by decide) rfl rfl rfl (Nat.le_of_ble_eq_true rfl) (Nat.le_of_ble_eq_true rfl) ?_
  refine tk_putF (pc := 37) d_G_init_37 g_G_24 p_G_5 rfl rfl rfl rfl (Nat.le_of_ble_eq_true rfl) rfl ?_
  refine tk_aload_n (pc := 40) d_G_init_40 rfl ?_
  refine tk_bipush (pc := 41) (v := 20) d_G_init_41 (by decide) ?_
  refine tk_newa (pc := 43) (t := 0) (N := 20) (a0 := (20, .inl (fun _ => 0))) d_G_init_43 a_int rfl rfl (fun _ => rfl) rfl (by decide) rfl rfl rfl (Nat.le_of_ble_eq_true rfl) (Nat.le_of_ble_eq_true rfl) ?_
  refine tk_putF (pc := 45) d_G_init_45 g_G_27 p_G_6 rfl rfl rfl rfl (Nat.le_of_ble_eq_true rfl) rfl ?_
  exact tk_return (pc := 48) d_G_init_48 rfl (Nat.le_of_ble_eq_true rfl) (Nat.le_of_ble_eq_true rfl) ⟨rfl, rfl⟩
theorem m_H_init {x0 x1 x2 x3 x4 x5 x6 x7 : tk_E} : tk_M y_H_init w_H_init 1 7 68 [.ref 8] (x0 :: x1 :: x2 :: x3 :: x4 :: x5 :: x6 :: x7 :: [.inr (2, [.int 0, .null, .null, .null, .null, .null, .null, .null])]) (tk_det (.inl none) (x0 :: x1 :: x2 :: x3 :: x4 :: x5 :: x6 :: x7 :: [.inr (2, [.int 0, .ref 9, .ref 10, .ref 11, .ref 12, .ref 13, .ref 14, .ref 15]), ia 4 z0, ia 4 z0, ia 16 z0, ia 16 z0, ia 4 z0, ia 4 z0, ia 20 z0])) := by
  refine tk_M.of (lv := [some (.ref 8)]) (by decide) (Nat.le_of_ble_eq_true rfl) rfl ?_
  refine tk_aload_n (pc := 0) d_H_init_0 rfl ?_
  refine tk_objInit (pc := 1) d_H_init_1 o_H o_1 o_2 (Nat.le_of_ble_eq_true rfl) ?_
  refine tk_aload_n (pc := 4) d_H_init_4 rfl ?_
  refine tk_iconst (pc := 5) (v := 4) d_H_init_5 (by decide) ?_
  refine tk_newa (pc := 6) (t := 0) (N := 4) (a0 := (4, .inl (fun _ => 0))) d_H_init_6 a_int rfl rfl (fun _ => rfl) rfl (by decide) rfl rfl rfl (Nat.le_of_ble_eq_true rfl) (Nat.le_of_ble_eq_true rfl) ?_
  refine tk_putF (pc := 8) d_H_init_8 g_H_9 p_H_1 rfl rfl rfl rfl (Nat.le_of_ble_eq_true rfl) rfl ?_
  refine tk_aload_n (pc := 11) d_H_init_11 rfl ?_
  refine tk_iconst (pc := 12) (v := 4) d_H_init_12 (by decide) ?_
  refine tk_newa (pc := 13) (t := 0) (N := 4) (a0 := (4, .inl (fun _ => 0))) d_H_init_13 a_int rfl rfl (fun _ => rfl) rfl (by decide) rfl rfl rfl (Nat.le_of_ble_eq_true rfl) (Nat.le_of_ble_eq_true rfl) ?_
  refine tk_putF (pc := 15) d_H_init_15 g_H_15 p_H_2 rfl rfl rfl rfl (Nat.le_of_ble_eq_true rfl) rfl ?_
  refine tk_aload_n (pc := 18) d_H_init_18 rfl ?_
  refine tk_bipush (pc := 19) (v := 16) d_H_init_19 (by decide) ?_
  refine tk_newa (pc := 21) (t := 0) (N := 16) (a0 := (16, .inl (fun _ => 0))) d_H_init_21 a_int rfl rfl (fun _ => rfl) rfl (by decide) rfl rfl rfl (Nat.le_of_ble_eq_true rfl) (Nat.le_of_ble_eq_true rfl) ?_
  refine tk_putF (pc := 23) d_H_init_23 g_H_18 p_H_3 rfl rfl rfl rfl (Nat.le_of_ble_eq_true rfl) rfl ?_
  refine tk_aload_n (pc := 26) d_H_init_26 rfl ?_
  refine tk_bipush (pc := 27) (v := 16) d_H_init_27 (by decide) ?_
  refine tk_newa (pc := 29) (t := 0) (N := 16) (a0 := (16, .inl (fun _ => 0))) d_H_init_29 a_int rfl rfl (fun _ => rfl) rfl (by decide) rfl rfl rfl (Nat.le_of_ble_eq_true rfl) (Nat.le_of_ble_eq_true rfl) ?_
  refine tk_putF (pc := 31) d_H_init_31 g_H_21 p_H_4 rfl rfl rfl rfl (Nat.le_of_ble_eq_true rfl) rfl ?_
  refine tk_aload_n (pc := 34) d_H_init_34 rfl ?_
  refine tk_iconst (pc := 35) (v := 4) d_H_init_35 (by decide) ?_
  refine tk_newa (pc := 36) (t := 0) (N := 4) (a0 := (4, .inl (fun _ => 0))) d_H_init_36 a_int rfl rfl (fun _ => rfl) rfl (by decide) rfl rfl rfl (Nat.le_of_ble_eq_true rfl) (Nat.le_of_ble_eq_true rfl) ?_
  refine tk_putF (pc := 38) d_H_init_38 g_H_24 p_H_5 rfl rfl rfl rfl (Nat.le_of_ble_eq_true rfl) rfl ?_
  refine tk_aload_n (pc := 41) d_H_init_41 rfl ?_
  refine tk_iconst (pc := 42) (v := 4) d_H_init_42 (by decide) ?_
  refine tk_newa (pc := 43) (t := 0) (N := 4) (a0 := (4, .inl (fun _ => 0))) d_H_init_43 a_int rfl rfl (fun _ => rfl) rfl (by decide) rfl rfl rfl (Nat.le_of_ble_eq_true rfl) (Nat.le_of_ble_eq_true rfl) ?_
  refine tk_putF (pc := 45) d_H_init_45 g_H_27 p_H_6 rfl rfl rfl rfl (Nat.le_of_ble_eq_true rfl) rfl ?_
  refine tk_aload_n (pc := 48) d_H_init_48 rfl ?_
  refine tk_bipush (pc := 49) (v := 20) d_H_init_49 (by decide) ?_
  refine tk_newa (pc := 51) (t := 0) (N := 20) (a0 := (20, .inl (fun _ => 0))) d_H_init_51 a_int rfl rfl (fun _ => rfl) rfl (by decide) rfl rfl rfl (Nat.le_of_ble_eq_true rfl) (Nat.le_of_ble_eq_true rfl) ?_
  refine tk_putF (pc := 53) d_H_init_53 g_H_30 p_H_7 rfl rfl rfl rfl (Nat.le_of_ble_eq_true rfl) rfl ?_
  exact tk_return (pc := 56) d_H_init_56 rfl (Nat.le_of_ble_eq_true rfl) (Nat.le_of_ble_eq_true rfl) ⟨rfl, rfl⟩
theorem m_P_init {x0 x1 x2 x3 x4 x5 x6 x7 x8 x9 x10 x11 x12 x13 x14 x15 : tk_E} : tk_M y_P_init w_P_init 2 6 151 [.ref 16] (x0 :: x1 :: x2 :: x3 :: x4 :: x5 :: x6 :: x7 :: x8 :: x9 :: x10 :: x11 :: x12 :: x13 :: x14 :: x15 :: [.inr (3, [.null, .null, .null, .int 0, .int 0, .int 0, .int 0, .int 0])]) (tk_det (.inl none) (x0 :: x1 :: x2 :: x3 :: x4 :: x5 :: x6 :: x7 :: x8 :: x9 :: x10 :: x11 :: x12 :: x13 :: x14 :: x15 :: [.inr (3, [.ref 17, .ref 21, .ref 22, .int 0, .int 0, .int 0, .int 0, .int 0]), .inr (4, [.int 0, .ref 18, .ref 19, .ref 20]), ia 5 z0, ia 60 z0, ia 72 z0, ia 5 z0, ia 5 z0])) := by
  refine tk_M.of (lv := [some (.ref 16)]) (by decide) (Nat.le_of_ble_eq_true rfl) rfl ?_
  refine tk_aload_n (pc := 0) d_P_init_0 rfl ?_
  refine tk_objInit (pc := 1) d_P_init_1 o_P o_1 o_2 (Nat.le_of_ble_eq_true rfl) ?_
  refine tk_aload_n (pc := 4) d_P_init_4 rfl ?_
  refine tk_new (pc := 5) d_P_init_5 nw_P_9 rfl rfl rfl rfl (Nat.le_of_ble_eq_true rfl) (Nat.le_of_ble_eq_true rfl) ?_
  refine tk_dup (pc := 8) d_P_init_8 rfl ?_
  refine tk_callIr (pc := 9) d_P_init_9 l_P_11 k_S_init (m_S_initP (x0 := x0)) rfl rfl (by omega) (Nat.le_of_ble_eq_true rfl) (Nat.le_of_ble_eq_true rfl) (Nat.le_of_ble_eq_true rfl) rfl rfl ?_
  refine tk_putF (pc := 12) d_P_init_12 g_P_12 p_P_0 rfl rfl rfl rfl (Nat.le_of_ble_eq_true rfl) rfl ?_
  refine tk_aload_n (pc := 15) d_P_init_15 rfl ?_
  refine tk_iconst (pc := 16) (v := 5) d_P_init_16 (by decide) ?_
  refine tk_newa (pc := 17) (t := 0) (N := 5) (a0 := (5, .inl (fun _ => 0))) d_P_init_17 a_int rfl rfl (fun _ => rfl) rfl (by decide) rfl rfl rfl (Nat.le_of_ble_eq_true rfl) (Nat.le_of_ble_eq_true rfl) ?_
  refine tk_putF (pc := 19) d_P_init_19 g_P_18 p_P_1 rfl rfl rfl rfl (Nat.le_of_ble_eq_true rfl) rfl ?_
  refine tk_aload_n (pc := 22) d_P_init_22 rfl ?_
  refine tk_iconst (pc := 23) (v := 5) d_P_init_23 (by decide) ?_
  refine tk_newa (pc := 24) (t := 0) (N := 5) (a0 := (5, .inl (fun _ => 0))) d_P_init_24 a_int rfl rfl (fun _ => rfl) rfl (by decide) rfl rfl rfl (Nat.le_of_ble_eq_true rfl) (Nat.le_of_ble_eq_true rfl) ?_
  refine tk_putF (pc := 26) d_P_init_26 g_P_22 p_P_2 rfl rfl rfl rfl (Nat.le_of_ble_eq_true rfl) rfl ?_
  exact tk_return (pc := 29) d_P_init_29 rfl (Nat.le_of_ble_eq_true rfl) (Nat.le_of_ble_eq_true rfl) ⟨rfl, rfl⟩
theorem m_C_init {x0 x1 x2 x3 x4 x5 x6 x7 x8 x9 x10 x11 x12 x13 x14 x15 x16 x17 x18 x19 x20 x21 x22 : tk_E} : tk_M y_C_init w_C_init 2 5 173 [.ref 23] (x0 :: x1 :: x2 :: x3 :: x4 :: x5 :: x6 :: x7 :: x8 :: x9 :: x10 :: x11 :: x12 :: x13 :: x14 :: x15 :: x16 :: x17 :: x18 :: x19 :: x20 :: x21 :: x22 :: [.inr (5, [.null, .null, .int 0])]) (tk_det (.inl none) (x0 :: x1 :: x2 :: x3 :: x4 :: x5 :: x6 :: x7 :: x8 :: x9 :: x10 :: x11 :: x12 :: x13 :: x14 :: x15 :: x16 :: x17 :: x18 :: x19 :: x20 :: x21 :: x22 :: [.inr (5, [.ref 24, .ref 28, .int 0]), .inr (4, [.int 0, .ref 25, .ref 26, .ref 27]), ia 5 z0, ia 60 z0, ia 72 z0, .inl (1, 32, .inr (.inl (fun _ => 0)))])) := by
  refine tk_M.of (lv := [some (.ref 23)]) (by decide) (Nat.le_of_ble_eq_true rfl) rfl ?_
  refine tk_aload_n (pc := 0) d_C_init_0 rfl ?_
  refine tk_objInit (pc := 1) d_C_init_1 o_C o_1 o_2 (Nat.le_of_ble_eq_true rfl) ?_
  refine tk_aload_n (pc := 4) d_C_init_4 rfl ?_
  refine tk_new (pc := 5) d_C_init_5 nw_C_9 rfl rfl rfl rfl (Nat.le_of_ble_eq_true rfl) (Nat.le_of_ble_eq_true rfl) ?_
  refine tk_dup (pc := 8) d_C_init_8 rfl ?_
  refine tk_callIr (pc := 9) d_C_init_9 l_C_11 k_S_init (m_S_initC (x0 := x0)) rfl rfl (by omega) (Nat.le_of_ble_eq_true rfl) (Nat.le_of_ble_eq_true rfl) (Nat.le_of_ble_eq_true rfl) rfl rfl ?_
  refine tk_putF (pc := 12) d_C_init_12 g_C_12 p_C_0 rfl rfl rfl rfl (Nat.le_of_ble_eq_true rfl) rfl ?_
  refine tk_aload_n (pc := 15) d_C_init_15 rfl ?_
  refine tk_bipush (pc := 16) (v := 32) d_C_init_16 (by decide) ?_
  refine tk_newa (pc := 18) (t := 1) (N := 32) (a0 := (32, .inr (.inl (fun _ => 0)))) d_C_init_18 a_long rfl rfl (fun _ => rfl) rfl (by decide) rfl rfl rfl (Nat.le_of_ble_eq_true rfl) (Nat.le_of_ble_eq_true rfl) ?_
  refine tk_putF (pc := 20) d_C_init_20 g_C_18 p_C_1 rfl rfl rfl rfl (Nat.le_of_ble_eq_true rfl) rfl ?_
  exact tk_return (pc := 23) d_C_init_23 rfl (Nat.le_of_ble_eq_true rfl) (Nat.le_of_ble_eq_true rfl) ⟨rfl, rfl⟩
theorem m_CP_init : tk_M y_CP_init w_CP_init 3 28 478 [.ref 0] [.inr (0, [.null, .null, .null, .null])] (tk_det (.inl none) (wd (nI 0, z0, z0, z0, z0, z0, z0) (nI 0, z0, z0, z0, z0, z0, z0, z0) ((0, z0, z0, z0), z0, z0, 0, 0, 0, 0, 0) ((0, z0, z0, z0), fun _ => 0, 0) [])) := by
  refine tk_M.of (lv := [some (.ref 0)]) (by decide) (Nat.le_of_ble_eq_true rfl) rfl ?_
  refine tk_aload_n (pc := 0) d_CP_init_0 rfl ?_
  refine tk_objInit (pc := 1) d_CP_init_1 o_CP o_1 o_2 (Nat.le_of_ble_eq_true rfl) ?_
  refine tk_aload_n (pc := 4) d_CP_init_4 rfl ?_
  refine tk_new (pc := 5) d_CP_init_5 nw_CP_7 rfl rfl rfl rfl (Nat.le_of_ble_eq_true rfl) (Nat.le_of_ble_eq_true rfl) ?_
  refine tk_dup (pc := 8) d_CP_init_8 rfl ?_
  refine tk_callIr (pc := 9) d_CP_init_9 l_CP_9 k_G_init (m_G_init) rfl rfl (by omega) (Nat.le_of_ble_eq_true rfl) (Nat.le_of_ble_eq_true rfl) (Nat.le_of_ble_eq_true rfl) rfl rfl ?_
  refine tk_putF (pc := 12) d_CP_init_12 g_CP_10 p_CP_0 rfl rfl rfl rfl (Nat.le_of_ble_eq_true rfl) rfl ?_
  refine tk_aload_n (pc := 15) d_CP_init_15 rfl ?_
  refine tk_new (pc := 16) d_CP_init_16 nw_CP_16 rfl rfl rfl rfl (Nat.le_of_ble_eq_true rfl) (Nat.le_of_ble_eq_true rfl) ?_
  refine tk_dup (pc := 19) d_CP_init_19 rfl ?_
  refine tk_callIr (pc := 20) d_CP_init_20 l_CP_18 k_H_init (m_H_init) rfl rfl (by omega) (Nat.le_of_ble_eq_true rfl) (Nat.le_of_ble_eq_true rfl) (Nat.le_of_ble_eq_true rfl) rfl rfl ?_
  refine tk_putF (pc := 23) d_CP_init_23 g_CP_19 p_CP_1 rfl rfl rfl rfl (Nat.le_of_ble_eq_true rfl) rfl ?_
  refine tk_aload_n (pc := 26) d_CP_init_26 rfl ?_
  refine tk_new (pc := 27) d_CP_init_27 nw_CP_23 rfl rfl rfl rfl (Nat.le_of_ble_eq_true rfl) (Nat.le_of_ble_eq_true rfl) ?_
  refine tk_dup (pc := 30) d_CP_init_30 rfl ?_
  refine tk_callIr (pc := 31) d_CP_init_31 l_CP_25 k_P_init (m_P_init) rfl rfl (by omega) (Nat.le_of_ble_eq_true rfl) (Nat.le_of_ble_eq_true rfl) (Nat.le_of_ble_eq_true rfl) rfl rfl ?_
  refine tk_putF (pc := 34) d_CP_init_34 g_CP_26 p_CP_2 rfl rfl rfl rfl (Nat.le_of_ble_eq_true rfl) rfl ?_
  refine tk_aload_n (pc := 37) d_CP_init_37 rfl ?_
  refine tk_new (pc := 38) d_CP_init_38 nw_CP_30 rfl rfl rfl rfl (Nat.le_of_ble_eq_true rfl) (Nat.le_of_ble_eq_true rfl) ?_
  refine tk_dup (pc := 41) d_CP_init_41 rfl ?_
  refine tk_callIr (pc := 42) d_CP_init_42 l_CP_32 k_C_init (m_C_init) rfl rfl (by omega) (Nat.le_of_ble_eq_true rfl) (Nat.le_of_ble_eq_true rfl) (Nat.le_of_ble_eq_true rfl) rfl rfl ?_
  refine tk_putF (pc := 45) d_CP_init_45 g_CP_33 p_CP_3 rfl rfl rfl rfl (Nat.le_of_ble_eq_true rfl) rfl ?_
  exact tk_return (pc := 48) d_CP_init_48 rfl (Nat.le_of_ble_eq_true rfl) (Nat.le_of_ble_eq_true rfl) ⟨rfl, rfl⟩
