/-! ===== the reference's constructor ===== -/
def pc0 : Ar := upd (upd (upd (upd (fun _ => 0) 0 (-1)) 1 (-1)) 2 (-1)) 3 (-1)
theorem m_M_init {g : sG} {h : sH} {p : sP} {c : sC} : tk_M y_M_init w_M_init 3 15 2181 [.ref 29] (wd g h p c [.inr (6, [.int 0, .int 0, .null, .null, .null, .null, .null, .null, .int 0, .null, .null, .null, .null, .null, .null, .null, .int 0, .int 0, .int 0, .null, .null])])
    (tk_det (.inl none) (wd g h p c [.inr (6, [.int 0, .int 0, .ref 30, .ref 31, .ref 32, .ref 33, .ref 34, .ref 35, .int 0, .ref 36, .ref 37, .ref 38, .ref 39, .ref 40, .ref 41, .ref 42, .int 0, .int 0, .int 0, .ref 43, .ref 44]), ia 5 z0, ia 5 z0, ia 5 z0, ia 5 z0, ia 20 z0, ia 20 z0, ia 4 z0, ia 4 z0, ia 4 z0, ia 16 z0, ia 16 z0, ia 4 pc0, ia 20 z0, ia 5 z0, .inl (2, 2048, .inl z0)])) := by
  refine tk_M.of (lv := [some (.ref 29)]) (by decide) (Nat.le_of_ble_eq_true rfl) rfl ?_
  refine tk_aload_n (pc := 0) d_M_init_0 rfl ?_
  refine tk_objInit (pc := 1) d_M_init_1 o_M o_1 o_2 (Nat.le_of_ble_eq_true rfl) ?_
  refine tk_aload_n (pc := 4) d_M_init_4 rfl ?_
  refine tk_iconst (pc := 5) (v := 5) d_M_init_5 (by decide) ?_
  refine tk_newa (pc := 6) (t := 0) (N := 5) (a0 := (5, .inl (fun _ => 0))) d_M_init_6 a_int rfl rfl (fun _ => rfl) rfl (by decide) rfl rfl rfl (Nat.le_of_ble_eq_true rfl) (Nat.le_of_ble_eq_true rfl) ?_
  refine tk_putF (pc := 8) d_M_init_8 g_M_7 p_M_2 rfl rfl rfl rfl (Nat.le_of_ble_eq_true rfl) rfl ?_
  refine tk_ww (wd g h p c [.inr (6, [.int 0, .int 0, .ref 30, .null, .null, .null, .null, .null, .int 0, .null, .null, .null, .null, .null, .null, .null, .int 0, .int 0, .int 0, .null, .null]), ia 5 z0]) rfl ?_
  refine tk_aload_n (pc := 11) d_M_init_11 rfl ?_
  refine tk_iconst (pc := 12) (v := 5) d_M_init_12 (by decide) ?_
  refine tk_newa (pc := 13) (t := 0) (N := 5) (a0 := (5, .inl (fun _ => 0))) d_M_init_13 a_int rfl rfl (fun _ => rfl) rfl (by decide) rfl rfl rfl (Nat.le_of_ble_eq_true rfl) (Nat.le_of_ble_eq_true rfl) ?_
  refine tk_putF (pc := 15) d_M_init_15 g_M_13 p_M_3 rfl rfl rfl rfl (Nat.le_of_ble_eq_true rfl) rfl ?_
  refine tk_ww (wd g h p c [.inr (6, [.int 0, .int 0, .ref 30, .ref 31, .null, .null, .null, .null, .int 0, .null, .null, .null, .null, .null, .null, .null, .int 0, .int 0, .int 0, .null, .null]), ia 5 z0, ia 5 z0]) rfl ?_
  refine tk_aload_n (pc := 18) d_M_init_18 rfl ?_
  refine tk_iconst (pc := 19) (v := 5) d_M_init_19 (by decide) ?_
  refine tk_newa (pc := 20) (t := 0) (N := 5) (a0 := (5, .inl (fun _ => 0))) d_M_init_20 a_int rfl rfl (fun _ => rfl) rfl (by decide) rfl rfl rfl (Nat.le_of_ble_eq_true rfl) (Nat.le_of_ble_eq_true rfl) ?_
  refine tk_putF (pc := 22) d_M_init_22 g_M_16 p_M_4 rfl rfl rfl rfl (Nat.le_of_ble_eq_true rfl) rfl ?_
  refine tk_ww (wd g h p c [.inr (6, [.int 0, .int 0, .ref 30, .ref 31, .ref 32, .null, .null, .null, .int 0, .null, .null, .null, .null, .null, .null, .null, .int 0, .int 0, .int 0, .null, .null]), ia 5 z0, ia 5 z0, ia 5 z0]) rfl ?_
  refine tk_aload_n (pc := 25) d_M_init_25 rfl ?_
  refine tk_iconst (pc := 26) (v := 5) d_M_init_26 (by decide) ?_
  refine tk_newa (pc := 27) (t := 0) (N := 5) (a0 := (5, .inl (fun _ => 0))) d_M_init_27 a_int rfl rfl (fun _ => rfl) rfl (by decide) rfl rfl rfl (Nat.le_of_ble_eq_true rfl) (Nat.le_of_ble_eq_true rfl) ?_
  refine tk_putF (pc := 29) d_M_init_29 g_M_19 p_M_5 rfl rfl rfl rfl (Nat.le_of_ble_eq_true rfl) rfl ?_
  refine tk_ww (wd g h p c [.inr (6, [.int 0, .int 0, .ref 30, .ref 31, .ref 32, .ref 33, .null, .null, .int 0, .null, .null, .null, .null, .null, .null, .null, .int 0, .int 0, .int 0, .null, .null]), ia 5 z0, ia 5 z0, ia 5 z0, ia 5 z0]) rfl ?_
  refine tk_aload_n (pc := 32) d_M_init_32 rfl ?_
  refine tk_bipush (pc := 33) (v := 20) d_M_init_33 (by decide) ?_
  refine tk_newa (pc := 35) (t := 0) (N := 20) (a0 := (20, .inl (fun _ => 0))) d_M_init_35 a_int rfl rfl (fun _ => rfl) rfl (by decide) rfl rfl rfl (Nat.le_of_ble_eq_true rfl) (Nat.le_of_ble_eq_true rfl) ?_
  refine tk_putF (pc := 37) d_M_init_37 g_M_22 p_M_6 rfl rfl rfl rfl (Nat.le_of_ble_eq_true rfl) rfl ?_
  refine tk_ww (wd g h p c [.inr (6, [.int 0, .int 0, .ref 30, .ref 31, .ref 32, .ref 33, .ref 34, .null, .int 0, .null, .null, .null, .null, .null, .null, .null, .int 0, .int 0, .int 0, .null, .null]), ia 5 z0, ia 5 z0, ia 5 z0, ia 5 z0, ia 20 z0]) rfl ?_
  refine tk_aload_n (pc := 40) d_M_init_40 rfl ?_
  refine tk_bipush (pc := 41) (v := 20) d_M_init_41 (by decide) ?_
  refine tk_newa (pc := 43) (t := 0) (N := 20) (a0 := (20, .inl (fun _ => 0))) d_M_init_43 a_int rfl rfl (fun _ => rfl) rfl (by decide) rfl rfl rfl (Nat.le_of_ble_eq_true rfl) (Nat.le_of_ble_eq_true rfl) ?_
  refine tk_putF (pc := 45) d_M_init_45 g_M_25 p_M_7 rfl rfl rfl rfl (Nat.le_of_ble_eq_true rfl) rfl ?_
  refine tk_ww (wd g h p c [.inr (6, [.int 0, .int 0, .ref 30, .ref 31, .ref 32, .ref 33, .ref 34, .ref 35, .int 0, .null, .null, .null, .null, .null, .null, .null, .int 0, .int 0, .int 0, .null, .null]), ia 5 z0, ia 5 z0, ia 5 z0, ia 5 z0, ia 20 z0, ia 20 z0]) rfl ?_
  refine tk_aload_n (pc := 48) d_M_init_48 rfl ?_
  refine tk_iconst (pc := 49) (v := 4) d_M_init_49 (by decide) ?_
  refine tk_newa (pc := 50) (t := 0) (N := 4) (a0 := (4, .inl (fun _ => 0))) d_M_init_50 a_int rfl rfl (fun _ => rfl) rfl (by decide) rfl rfl rfl (Nat.le_of_ble_eq_true rfl) (Nat.le_of_ble_eq_true rfl) ?_
  refine tk_putF (pc := 52) d_M_init_52 g_M_28 p_M_9 rfl rfl rfl rfl (Nat.le_of_ble_eq_true rfl) rfl ?_
  refine tk_ww (wd g h p c [.inr (6, [.int 0, .int 0, .ref 30, .ref 31, .ref 32, .ref 33, .ref 34, .ref 35, .int 0, .ref 36, .null, .null, .null, .null, .null, .null, .int 0, .int 0, .int 0, .null, .null]), ia 5 z0, ia 5 z0, ia 5 z0, ia 5 z0, ia 20 z0, ia 20 z0, ia 4 z0]) rfl ?_
  refine tk_aload_n (pc := 55) d_M_init_55 rfl ?_
  refine tk_iconst (pc := 56) (v := 4) d_M_init_56 (by decide) ?_
  refine tk_newa (pc := 57) (t := 0) (N := 4) (a0 := (4, .inl (fun _ => 0))) d_M_init_57 a_int rfl rfl (fun _ => rfl) rfl (by decide) rfl rfl rfl (Nat.le_of_ble_eq_true rfl) (Nat.le_of_ble_eq_true rfl) ?_
  refine tk_putF (pc := 59) d_M_init_59 g_M_31 p_M_10 rfl rfl rfl rfl (Nat.le_of_ble_eq_true rfl) rfl ?_
  refine tk_ww (wd g h p c [.inr (6, [.int 0, .int 0, .ref 30, .ref 31, .ref 32, .ref 33, .ref 34, .ref 35, .int 0, .ref 36, .ref 37, .null, .null, .null, .null, .null, .int 0, .int 0, .int 0, .null, .null]), ia 5 z0, ia 5 z0, ia 5 z0, ia 5 z0, ia 20 z0, ia 20 z0, ia 4 z0, ia 4 z0]) rfl ?_
  refine tk_aload_n (pc := 62) d_M_init_62 rfl ?_
  refine tk_iconst (pc := 63) (v := 4) d_M_init_63 (by decide) ?_
  refine tk_newa (pc := 64) (t := 0) (N := 4) (a0 := (4, .inl (fun _ => 0))) d_M_init_64 a_int rfl rfl (fun _ => rfl) rfl (by decide) rfl rfl rfl (Nat.le_of_ble_eq_true rfl) (Nat.le_of_ble_eq_true rfl) ?_
  refine tk_putF (pc := 66) d_M_init_66 g_M_34 p_M_11 rfl rfl rfl rfl (Nat.le_of_ble_eq_true rfl) rfl ?_
  refine tk_ww (wd g h p c [.inr (6, [.int 0, .int 0, .ref 30, .ref 31, .ref 32, .ref 33, .ref 34, .ref 35, .int 0, .ref 36, .ref 37, .ref 38, .null, .null, .null, .null, .int 0, .int 0, .int 0, .null, .null]), ia 5 z0, ia 5 z0, ia 5 z0, ia 5 z0, ia 20 z0, ia 20 z0, ia 4 z0, ia 4 z0, ia 4 z0]) rfl ?_
  refine tk_aload_n (pc := 69) d_M_init_69 rfl ?_
  refine tk_bipush (pc := 70) (v := 16) d_M_init_70 (by decide) ?_
  refine tk_newa (pc := 72) (t := 0) (N := 16) (a0 := (16, .inl (fun _ => 0))) d_M_init_72 a_int rfl rfl (fun _ => rfl) rfl (by decide) rfl rfl rfl (Nat.le_of_ble_eq_true rfl) (Nat.le_of_ble_eq_true rfl) ?_
  refine tk_putF (pc := 74) d_M_init_74 g_M_37 p_M_12 rfl rfl rfl rfl (Nat.le_of_ble_eq_true rfl) rfl ?_
  refine tk_ww (wd g h p c [.inr (6, [.int 0, .int 0, .ref 30, .ref 31, .ref 32, .ref 33, .ref 34, .ref 35, .int 0, .ref 36, .ref 37, .ref 38, .ref 39, .null, .null, .null, .int 0, .int 0, .int 0, .null, .null]), ia 5 z0, ia 5 z0, ia 5 z0, ia 5 z0, ia 20 z0, ia 20 z0, ia 4 z0, ia 4 z0, ia 4 z0, ia 16 z0]) rfl ?_
  refine tk_aload_n (pc := 77) d_M_init_77 rfl ?_
  refine tk_bipush (pc := 78) (v := 16) d_M_init_78 (by decide) ?_
  refine tk_newa (pc := 80) (t := 0) (N := 16) (a0 := (16, .inl (fun _ => 0))) d_M_init_80 a_int rfl rfl (fun _ => rfl) rfl (by decide) rfl rfl rfl (Nat.le_of_ble_eq_true rfl) (Nat.le_of_ble_eq_true rfl) ?_
  refine tk_putF (pc := 82) d_M_init_82 g_M_40 p_M_13 rfl rfl rfl rfl (Nat.le_of_ble_eq_true rfl) rfl ?_
  refine tk_ww (wd g h p c [.inr (6, [.int 0, .int 0, .ref 30, .ref 31, .ref 32, .ref 33, .ref 34, .ref 35, .int 0, .ref 36, .ref 37, .ref 38, .ref 39, .ref 40, .null, .null, .int 0, .int 0, .int 0, .null, .null]), ia 5 z0, ia 5 z0, ia 5 z0, ia 5 z0, ia 20 z0, ia 20 z0, ia 4 z0, ia 4 z0, ia 4 z0, ia 16 z0, ia 16 z0]) rfl ?_
  refine tk_aload_n (pc := 85) d_M_init_85 rfl ?_
  refine tk_iconst (pc := 86) (v := 4) d_M_init_86 (by decide) ?_
  refine tk_newa (pc := 87) (t := 0) (N := 4) (a0 := (4, .inl (fun _ => 0))) d_M_init_87 a_int rfl rfl (fun _ => rfl) rfl (by decide) rfl rfl rfl (Nat.le_of_ble_eq_true rfl) (Nat.le_of_ble_eq_true rfl) ?_
  refine tk_dup (pc := 89) d_M_init_89 rfl ?_
  refine tk_iconst (pc := 90) (v := 0) d_M_init_90 (by decide) ?_
  refine tk_iconst (pc := 91) (v := -1) d_M_init_91 (by decide) ?_
  refine tk_iast (pc := 92) 0 d_M_init_92 rfl rfl (by decide) (by decide) ?_
  refine tk_dup (pc := 93) d_M_init_93 rfl ?_
  refine tk_iconst (pc := 94) (v := 1) d_M_init_94 (by decide) ?_
  refine tk_iconst (pc := 95) (v := -1) d_M_init_95 (by decide) ?_
  refine tk_iast (pc := 96) 1 d_M_init_96 rfl rfl (by decide) (by decide) ?_
  refine tk_dup (pc := 97) d_M_init_97 rfl ?_
  refine tk_iconst (pc := 98) (v := 2) d_M_init_98 (by decide) ?_
  refine tk_iconst (pc := 99) (v := -1) d_M_init_99 (by decide) ?_
  refine tk_iast (pc := 100) 2 d_M_init_100 rfl rfl (by decide) (by decide) ?_
  refine tk_dup (pc := 101) d_M_init_101 rfl ?_
  refine tk_iconst (pc := 102) (v := 3) d_M_init_102 (by decide) ?_
  refine tk_iconst (pc := 103) (v := -1) d_M_init_103 (by decide) ?_
  refine tk_iast (pc := 104) 3 d_M_init_104 rfl rfl (by decide) (by decide) ?_
  refine tk_putF (pc := 105) d_M_init_105 g_M_43 p_M_14 rfl rfl rfl rfl (Nat.le_of_ble_eq_true rfl) rfl ?_
  refine tk_ww (wd g h p c [.inr (6, [.int 0, .int 0, .ref 30, .ref 31, .ref 32, .ref 33, .ref 34, .ref 35, .int 0, .ref 36, .ref 37, .ref 38, .ref 39, .ref 40, .ref 41, .null, .int 0, .int 0, .int 0, .null, .null]), ia 5 z0, ia 5 z0, ia 5 z0, ia 5 z0, ia 20 z0, ia 20 z0, ia 4 z0, ia 4 z0, ia 4 z0, ia 16 z0, ia 16 z0, ia 4 pc0]) rfl ?_
  refine tk_aload_n (pc := 108) d_M_init_108 rfl ?_
  refine tk_bipush (pc := 109) (v := 20) d_M_init_109 (by decide) ?_
  refine tk_newa (pc := 111) (t := 0) (N := 20) (a0 := (20, .inl (fun _ => 0))) d_M_init_111 a_int rfl rfl (fun _ => rfl) rfl (by decide) rfl rfl rfl (Nat.le_of_ble_eq_true rfl) (Nat.le_of_ble_eq_true rfl) ?_
  refine tk_putF (pc := 113) d_M_init_113 g_M_46 p_M_15 rfl rfl rfl rfl (Nat.le_of_ble_eq_true rfl) rfl ?_
  refine tk_ww (wd g h p c [.inr (6, [.int 0, .int 0, .ref 30, .ref 31, .ref 32, .ref 33, .ref 34, .ref 35, .int 0, .ref 36, .ref 37, .ref 38, .ref 39, .ref 40, .ref 41, .ref 42, .int 0, .int 0, .int 0, .null, .null]), ia 5 z0, ia 5 z0, ia 5 z0, ia 5 z0, ia 20 z0, ia 20 z0, ia 4 z0, ia 4 z0, ia 4 z0, ia 16 z0, ia 16 z0, ia 4 pc0, ia 20 z0]) rfl ?_
  refine tk_aload_n (pc := 116) d_M_init_116 rfl ?_
  refine tk_iconst (pc := 117) (v := 5) d_M_init_117 (by decide) ?_
  refine tk_newa (pc := 118) (t := 0) (N := 5) (a0 := (5, .inl (fun _ => 0))) d_M_init_118 a_int rfl rfl (fun _ => rfl) rfl (by decide) rfl rfl rfl (Nat.le_of_ble_eq_true rfl) (Nat.le_of_ble_eq_true rfl) ?_
  refine tk_putF (pc := 120) d_M_init_120 g_M_49 p_M_19 rfl rfl rfl rfl (Nat.le_of_ble_eq_true rfl) rfl ?_
  refine tk_ww (wd g h p c [.inr (6, [.int 0, .int 0, .ref 30, .ref 31, .ref 32, .ref 33, .ref 34, .ref 35, .int 0, .ref 36, .ref 37, .ref 38, .ref 39, .ref 40, .ref 41, .ref 42, .int 0, .int 0, .int 0, .ref 43, .null]), ia 5 z0, ia 5 z0, ia 5 z0, ia 5 z0, ia 20 z0, ia 20 z0, ia 4 z0, ia 4 z0, ia 4 z0, ia 16 z0, ia 16 z0, ia 4 pc0, ia 20 z0, ia 5 z0]) rfl ?_
  refine tk_aload_n (pc := 123) d_M_init_123 rfl ?_
  refine tk_sipush (pc := 124) (v := 2048) d_M_init_124 (by decide) ?_
  refine tk_newa (pc := 127) (t := 2) (N := 2048) (a0 := (2048, .inl (fun _ => 0))) d_M_init_127 a_boolean rfl rfl (fun _ => rfl) rfl (by decide) rfl rfl rfl (Nat.le_of_ble_eq_true rfl) (Nat.le_of_ble_eq_true rfl) ?_
  refine tk_putF (pc := 129) d_M_init_129 g_M_52 p_M_20 rfl rfl rfl rfl (Nat.le_of_ble_eq_true rfl) rfl ?_
  refine tk_ww (wd g h p c [.inr (6, [.int 0, .int 0, .ref 30, .ref 31, .ref 32, .ref 33, .ref 34, .ref 35, .int 0, .ref 36, .ref 37, .ref 38, .ref 39, .ref 40, .ref 41, .ref 42, .int 0, .int 0, .int 0, .ref 43, .ref 44]), ia 5 z0, ia 5 z0, ia 5 z0, ia 5 z0, ia 20 z0, ia 20 z0, ia 4 z0, ia 4 z0, ia 4 z0, ia 16 z0, ia 16 z0, ia 4 pc0, ia 20 z0, ia 5 z0, .inl (2, 2048, .inl z0)]) rfl ?_
  exact tk_return (pc := 132) d_M_init_132 rfl (Nat.le_of_ble_eq_true rfl) (Nat.le_of_ble_eq_true rfl) ⟨rfl, rfl⟩
