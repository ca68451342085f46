/-! ===== the law's wrappers ===== -/
theorem wk_eS : Cond.classLink "ChargePlansLaw" 13 eS ∈ tk_tbl := tk_at 202 (by decide +kernel) (by decide +kernel)
theorem wc_eS : Cond.castable eS eS ∈ tk_tbl := tk_at 213 (by decide +kernel) (by decide +kernel)
theorem wk_eA : Cond.classLink "ChargePlansLaw" 15 eA ∈ tk_tbl := tk_at 203 (by decide +kernel) (by decide +kernel)
theorem wc_eA : Cond.castable eA eA ∈ tk_tbl := tk_at 288 (by decide +kernel) (by decide +kernel)
theorem wk_eI : Cond.classLink "ChargePlansLaw" 21 eI ∈ tk_tbl := tk_at 310 (by decide +kernel) (by decide +kernel)
theorem wc_eI : Cond.castable eI eI ∈ tk_tbl := tk_at 320 (by decide +kernel) (by decide +kernel)
theorem wk_eU : Cond.classLink "ChargePlansLaw" 31 eU ∈ tk_tbl := tk_at 347 (by decide +kernel) (by decide +kernel)
theorem wc_eU : Cond.castable eU eU ∈ tk_tbl := tk_at 357 (by decide +kernel) (by decide +kernel)
theorem wn_eI_eS : Cond.not (.castable eI eS) ∈ tk_tbl := tk_nc (by decide +kernel) (by decide +kernel)
theorem wn_eI_eA : Cond.not (.castable eI eA) ∈ tk_tbl := tk_nc (by decide +kernel) (by decide +kernel)
theorem wn_eI_eU : Cond.not (.castable eI eU) ∈ tk_tbl := tk_nc (by decide +kernel) (by decide +kernel)
theorem wn_eS_eI : Cond.not (.castable eS eI) ∈ tk_tbl := tk_nc (by decide +kernel) (by decide +kernel)
theorem wn_eS_eA : Cond.not (.castable eS eA) ∈ tk_tbl := tk_nc (by decide +kernel) (by decide +kernel)
theorem wn_eS_eU : Cond.not (.castable eS eU) ∈ tk_tbl := tk_nc (by decide +kernel) (by decide +kernel)
theorem wn_eA_eI : Cond.not (.castable eA eI) ∈ tk_tbl := tk_nc (by decide +kernel) (by decide +kernel)
theorem wn_eA_eS : Cond.not (.castable eA eS) ∈ tk_tbl := tk_nc (by decide +kernel) (by decide +kernel)
theorem wn_eA_eU : Cond.not (.castable eA eU) ∈ tk_tbl := tk_nc (by decide +kernel) (by decide +kernel)
theorem wn_eU_eI : Cond.not (.castable eU eI) ∈ tk_tbl := tk_nc (by decide +kernel) (by decide +kernel)
theorem wn_eU_eS : Cond.not (.castable eU eS) ∈ tk_tbl := tk_nc (by decide +kernel) (by decide +kernel)
theorem wn_eU_eA : Cond.not (.castable eU eA) ∈ tk_tbl := tk_nc (by decide +kernel) (by decide +kernel)
section WRAP
variable {w w1 : tk_W} {F : List Value} {o : Nat → Int64} {a0 a1 a2 a3 : Int32}
theorem wl_good_r {q : Int32} (hM : tk_M y_CP_good w_CP_good 10 1 6 [.ref 0, .int a0, .int a1, .int a2] w (tk_det (.inl (some (.int q))) w1)) (hl : w1.length = w.length) (hx : w[0]? = some (.inr (0, F))) (ho : w1[45]? = some (.inl (1, 1, .inr (.inl o)))) : tk_M y_L_good w_L_good 11 1 6 [.ref 0, .int a0, .int a1, .int a2, .ref 45] w (tk_det (.inl (some (.int 0))) (w1.set 45 (.inl (1, 1, .inr (.inl (vp_updL o 0 q.toInt64)))))) := by
  refine tk_M.ofW (lv := [some (.ref 0), some (.int a0), some (.int a1), some (.int a2), some (.ref 45), none]) (by decide) (Nat.le_of_ble_eq_true rfl) rfl ?_
  refine tk_aload (pc := 0) d_L_good_0 rfl ?_
  refine tk_iconst (pc := 2) (v := 0) d_L_good_2 (by decide) ?_
  refine tk_aload_n (pc := 3) d_L_good_3 rfl ?_
  refine tk_iload_n (pc := 4) d_L_good_4 rfl ?_
  refine tk_iload_n (pc := 5) d_L_good_5 rfl ?_
  refine tk_iload_n (pc := 6) d_L_good_6 rfl ?_
  refine tk_callVr (pc := 7) d_L_good_7 l_L_7 k_CP_good hx rfl rfl hM hl (by omega) (Nat.le_of_ble_eq_true rfl) (Nat.le_of_ble_eq_true rfl) (Nat.le_of_ble_eq_true rfl) rfl rfl ?_
  refine tk_i2l (pc := 10) d_L_good_10 ?_
  refine tk_last (pc := 11) 0 d_L_good_11 ho rfl (by decide) (by decide) ?_
  refine tk_goto (pc := 12) (tgt := 23) d_L_good_12 (by decide) ?_
  refine tk_iconst (pc := 23) (v := 0) d_L_good_23 (by decide) ?_
  exact tk_ireturn (pc := 24) d_L_good_24 rfl rfl (Nat.le_of_ble_eq_true rfl) (Nat.le_of_ble_eq_true rfl) ⟨rfl, rfl⟩
theorem wl_good_1 (hM : tk_M y_CP_good w_CP_good 10 1 6 [.ref 0, .int a0, .int a1, .int a2] w (tk_det (.inr eS) w1)) (hl : w1.length = w.length) (hx : w[0]? = some (.inr (0, F))) : tk_M y_L_good w_L_good 11 1 6 [.ref 0, .int a0, .int a1, .int a2, .ref 45] w (tk_det (.inl (some (.int 1))) w1) := by
  refine tk_M.ofW (lv := [some (.ref 0), some (.int a0), some (.int a1), some (.int a2), some (.ref 45), none]) (by decide) (Nat.le_of_ble_eq_true rfl) rfl ?_
  refine tk_aload (pc := 0) d_L_good_0 rfl ?_
  refine tk_iconst (pc := 2) (v := 0) d_L_good_2 (by decide) ?_
  refine tk_aload_n (pc := 3) d_L_good_3 rfl ?_
  refine tk_iload_n (pc := 4) d_L_good_4 rfl ?_
  refine tk_iload_n (pc := 5) d_L_good_5 rfl ?_
  refine tk_iload_n (pc := 6) d_L_good_6 rfl ?_
  refine tk_callVx (pc := 7) d_L_good_7 l_L_7 k_CP_good hx rfl rfl hM hl (by omega) (Nat.le_of_ble_eq_true rfl) (Nat.le_of_ble_eq_true rfl) (Nat.le_of_ble_eq_true rfl) rfl rfl ?_
  refine tk_X.catch (pre := []) (a0 := 0) (a1 := 12) (hp := 15) (ct := 13) (i := 5) (len := 2) rfl (fun z hz => by cases hz) (by decide) (by decide) wk_eS wc_eS (Or.inr ⟨d_L_good_15, rfl⟩) rfl (by decide) ?_
  refine tk_iconst (pc := 17) (v := 1) d_L_good_17 (by decide) ?_
  exact tk_ireturn (pc := 18) d_L_good_18 rfl rfl (Nat.le_of_ble_eq_true rfl) (Nat.le_of_ble_eq_true rfl) ⟨rfl, rfl⟩
theorem wl_good_2 (hM : tk_M y_CP_good w_CP_good 10 1 6 [.ref 0, .int a0, .int a1, .int a2] w (tk_det (.inr eA) w1)) (hl : w1.length = w.length) (hx : w[0]? = some (.inr (0, F))) : tk_M y_L_good w_L_good 11 1 6 [.ref 0, .int a0, .int a1, .int a2, .ref 45] w (tk_det (.inl (some (.int 2))) w1) := by
  refine tk_M.ofW (lv := [some (.ref 0), some (.int a0), some (.int a1), some (.int a2), some (.ref 45), none]) (by decide) (Nat.le_of_ble_eq_true rfl) rfl ?_
  refine tk_aload (pc := 0) d_L_good_0 rfl ?_
  refine tk_iconst (pc := 2) (v := 0) d_L_good_2 (by decide) ?_
  refine tk_aload_n (pc := 3) d_L_good_3 rfl ?_
  refine tk_iload_n (pc := 4) d_L_good_4 rfl ?_
  refine tk_iload_n (pc := 5) d_L_good_5 rfl ?_
  refine tk_iload_n (pc := 6) d_L_good_6 rfl ?_
  refine tk_callVx (pc := 7) d_L_good_7 l_L_7 k_CP_good hx rfl rfl hM hl (by omega) (Nat.le_of_ble_eq_true rfl) (Nat.le_of_ble_eq_true rfl) (Nat.le_of_ble_eq_true rfl) rfl rfl ?_
  refine tk_X.catch (pre := [(0, 12, 15, 13)]) (a0 := 0) (a1 := 12) (hp := 19) (ct := 15) (i := 5) (len := 2) rfl (fun z hz => by
    simp only [List.mem_cons, List.not_mem_nil, or_false] at hz
    rcases hz with rfl
    · exact Or.inr ⟨by decide, eS, wk_eS, wn_eA_eS⟩) (by decide) (by decide) wk_eA wc_eA (Or.inr ⟨d_L_good_19, rfl⟩) rfl (by decide) ?_
  refine tk_iconst (pc := 21) (v := 2) d_L_good_21 (by decide) ?_
  exact tk_ireturn (pc := 22) d_L_good_22 rfl rfl (Nat.le_of_ble_eq_true rfl) (Nat.le_of_ble_eq_true rfl) ⟨rfl, rfl⟩
theorem wl_element_r (hM : tk_M y_CP_element w_CP_element 10 1 6 [.ref 0, .int a0, .int a1, .int a2, .int a3] w (tk_det (.inl none) w1)) (hl : w1.length = w.length) (hx : w[0]? = some (.inr (0, F))) : tk_M y_L_element w_L_element 11 1 6 [.ref 0, .int a0, .int a1, .int a2, .int a3] w (tk_det (.inl (some (.int 0))) w1) := by
  refine tk_M.ofW (lv := [some (.ref 0), some (.int a0), some (.int a1), some (.int a2), some (.int a3), none]) (by decide) (Nat.le_of_ble_eq_true rfl) rfl ?_
  refine tk_aload_n (pc := 0) d_L_element_0 rfl ?_
  refine tk_iload_n (pc := 1) d_L_element_1 rfl ?_
  refine tk_iload_n (pc := 2) d_L_element_2 rfl ?_
  refine tk_iload_n (pc := 3) d_L_element_3 rfl ?_
  refine tk_iload (pc := 4) d_L_element_4 rfl ?_
  refine tk_callVr (pc := 6) d_L_element_6 l_L_17 k_CP_element hx rfl rfl hM hl (by omega) (Nat.le_of_ble_eq_true rfl) (Nat.le_of_ble_eq_true rfl) (Nat.le_of_ble_eq_true rfl) rfl rfl ?_
  refine tk_goto (pc := 9) (tgt := 20) d_L_element_9 (by decide) ?_
  refine tk_iconst (pc := 20) (v := 0) d_L_element_20 (by decide) ?_
  exact tk_ireturn (pc := 21) d_L_element_21 rfl rfl (Nat.le_of_ble_eq_true rfl) (Nat.le_of_ble_eq_true rfl) ⟨rfl, rfl⟩
theorem wl_element_1 (hM : tk_M y_CP_element w_CP_element 10 1 6 [.ref 0, .int a0, .int a1, .int a2, .int a3] w (tk_det (.inr eI) w1)) (hl : w1.length = w.length) (hx : w[0]? = some (.inr (0, F))) : tk_M y_L_element w_L_element 11 1 6 [.ref 0, .int a0, .int a1, .int a2, .int a3] w (tk_det (.inl (some (.int 1))) w1) := by
  refine tk_M.ofW (lv := [some (.ref 0), some (.int a0), some (.int a1), some (.int a2), some (.int a3), none]) (by decide) (Nat.le_of_ble_eq_true rfl) rfl ?_
  refine tk_aload_n (pc := 0) d_L_element_0 rfl ?_
  refine tk_iload_n (pc := 1) d_L_element_1 rfl ?_
  refine tk_iload_n (pc := 2) d_L_element_2 rfl ?_
  refine tk_iload_n (pc := 3) d_L_element_3 rfl ?_
  refine tk_iload (pc := 4) d_L_element_4 rfl ?_
  refine tk_callVx (pc := 6) d_L_element_6 l_L_17 k_CP_element hx rfl rfl hM hl (by omega) (Nat.le_of_ble_eq_true rfl) (Nat.le_of_ble_eq_true rfl) (Nat.le_of_ble_eq_true rfl) rfl rfl ?_
  refine tk_X.catch (pre := []) (a0 := 0) (a1 := 9) (hp := 12) (ct := 21) (i := 5) (len := 2) rfl (fun z hz => by cases hz) (by decide) (by decide) wk_eI wc_eI (Or.inr ⟨d_L_element_12, rfl⟩) rfl (by decide) ?_
  refine tk_iconst (pc := 14) (v := 1) d_L_element_14 (by decide) ?_
  exact tk_ireturn (pc := 15) d_L_element_15 rfl rfl (Nat.le_of_ble_eq_true rfl) (Nat.le_of_ble_eq_true rfl) ⟨rfl, rfl⟩
theorem wl_element_2 (hM : tk_M y_CP_element w_CP_element 10 1 6 [.ref 0, .int a0, .int a1, .int a2, .int a3] w (tk_det (.inr eA) w1)) (hl : w1.length = w.length) (hx : w[0]? = some (.inr (0, F))) : tk_M y_L_element w_L_element 11 1 6 [.ref 0, .int a0, .int a1, .int a2, .int a3] w (tk_det (.inl (some (.int 2))) w1) := by
  refine tk_M.ofW (lv := [some (.ref 0), some (.int a0), some (.int a1), some (.int a2), some (.int a3), none]) (by decide) (Nat.le_of_ble_eq_true rfl) rfl ?_
  refine tk_aload_n (pc := 0) d_L_element_0 rfl ?_
  refine tk_iload_n (pc := 1) d_L_element_1 rfl ?_
  refine tk_iload_n (pc := 2) d_L_element_2 rfl ?_
  refine tk_iload_n (pc := 3) d_L_element_3 rfl ?_
  refine tk_iload (pc := 4) d_L_element_4 rfl ?_
  refine tk_callVx (pc := 6) d_L_element_6 l_L_17 k_CP_element hx rfl rfl hM hl (by omega) (Nat.le_of_ble_eq_true rfl) (Nat.le_of_ble_eq_true rfl) (Nat.le_of_ble_eq_true rfl) rfl rfl ?_
  refine tk_X.catch (pre := [(0, 9, 12, 21)]) (a0 := 0) (a1 := 9) (hp := 16) (ct := 15) (i := 5) (len := 2) rfl (fun z hz => by
    simp only [List.mem_cons, List.not_mem_nil, or_false] at hz
    rcases hz with rfl
    · exact Or.inr ⟨by decide, eI, wk_eI, wn_eA_eI⟩) (by decide) (by decide) wk_eA wc_eA (Or.inr ⟨d_L_element_16, rfl⟩) rfl (by decide) ?_
  refine tk_iconst (pc := 18) (v := 2) d_L_element_18 (by decide) ?_
  exact tk_ireturn (pc := 19) d_L_element_19 rfl rfl (Nat.le_of_ble_eq_true rfl) (Nat.le_of_ble_eq_true rfl) ⟨rfl, rfl⟩
theorem wl_limit_r (hM : tk_M y_CP_limit w_CP_limit 10 1 6 [.ref 0, .int a0, .int a1] w (tk_det (.inl none) w1)) (hl : w1.length = w.length) (hx : w[0]? = some (.inr (0, F))) : tk_M y_L_limit w_L_limit 11 1 6 [.ref 0, .int a0, .int a1] w (tk_det (.inl (some (.int 0))) w1) := by
  refine tk_M.ofW (lv := [some (.ref 0), some (.int a0), some (.int a1), none]) (by decide) (Nat.le_of_ble_eq_true rfl) rfl ?_
  refine tk_aload_n (pc := 0) d_L_limit_0 rfl ?_
  refine tk_iload_n (pc := 1) d_L_limit_1 rfl ?_
  refine tk_iload_n (pc := 2) d_L_limit_2 rfl ?_
  refine tk_callVr (pc := 3) d_L_limit_3 l_L_23 k_CP_limit hx rfl rfl hM hl (by omega) (Nat.le_of_ble_eq_true rfl) (Nat.le_of_ble_eq_true rfl) (Nat.le_of_ble_eq_true rfl) rfl rfl ?_
  refine tk_goto (pc := 6) (tgt := 15) d_L_limit_6 (by decide) ?_
  refine tk_iconst (pc := 15) (v := 0) d_L_limit_15 (by decide) ?_
  exact tk_ireturn (pc := 16) d_L_limit_16 rfl rfl (Nat.le_of_ble_eq_true rfl) (Nat.le_of_ble_eq_true rfl) ⟨rfl, rfl⟩
theorem wl_limit_1 (hM : tk_M y_CP_limit w_CP_limit 10 1 6 [.ref 0, .int a0, .int a1] w (tk_det (.inr eI) w1)) (hl : w1.length = w.length) (hx : w[0]? = some (.inr (0, F))) : tk_M y_L_limit w_L_limit 11 1 6 [.ref 0, .int a0, .int a1] w (tk_det (.inl (some (.int 1))) w1) := by
  refine tk_M.ofW (lv := [some (.ref 0), some (.int a0), some (.int a1), none]) (by decide) (Nat.le_of_ble_eq_true rfl) rfl ?_
  refine tk_aload_n (pc := 0) d_L_limit_0 rfl ?_
  refine tk_iload_n (pc := 1) d_L_limit_1 rfl ?_
  refine tk_iload_n (pc := 2) d_L_limit_2 rfl ?_
  refine tk_callVx (pc := 3) d_L_limit_3 l_L_23 k_CP_limit hx rfl rfl hM hl (by omega) (Nat.le_of_ble_eq_true rfl) (Nat.le_of_ble_eq_true rfl) (Nat.le_of_ble_eq_true rfl) rfl rfl ?_
  refine tk_X.catch (pre := []) (a0 := 0) (a1 := 6) (hp := 9) (ct := 21) (i := 3) (len := 1) rfl (fun z hz => by cases hz) (by decide) (by decide) wk_eI wc_eI (Or.inl ⟨3, d_L_limit_9, rfl, rfl⟩) rfl (by decide) ?_
  refine tk_iconst (pc := 10) (v := 1) d_L_limit_10 (by decide) ?_
  exact tk_ireturn (pc := 11) d_L_limit_11 rfl rfl (Nat.le_of_ble_eq_true rfl) (Nat.le_of_ble_eq_true rfl) ⟨rfl, rfl⟩
theorem wl_limit_2 (hM : tk_M y_CP_limit w_CP_limit 10 1 6 [.ref 0, .int a0, .int a1] w (tk_det (.inr eA) w1)) (hl : w1.length = w.length) (hx : w[0]? = some (.inr (0, F))) : tk_M y_L_limit w_L_limit 11 1 6 [.ref 0, .int a0, .int a1] w (tk_det (.inl (some (.int 2))) w1) := by
  refine tk_M.ofW (lv := [some (.ref 0), some (.int a0), some (.int a1), none]) (by decide) (Nat.le_of_ble_eq_true rfl) rfl ?_
  refine tk_aload_n (pc := 0) d_L_limit_0 rfl ?_
  refine tk_iload_n (pc := 1) d_L_limit_1 rfl ?_
  refine tk_iload_n (pc := 2) d_L_limit_2 rfl ?_
  refine tk_callVx (pc := 3) d_L_limit_3 l_L_23 k_CP_limit hx rfl rfl hM hl (by omega) (Nat.le_of_ble_eq_true rfl) (Nat.le_of_ble_eq_true rfl) (Nat.le_of_ble_eq_true rfl) rfl rfl ?_
  refine tk_X.catch (pre := [(0, 6, 9, 21)]) (a0 := 0) (a1 := 6) (hp := 12) (ct := 15) (i := 3) (len := 1) rfl (fun z hz => by
    simp only [List.mem_cons, List.not_mem_nil, or_false] at hz
    rcases hz with rfl
    · exact Or.inr ⟨by decide, eI, wk_eI, wn_eA_eI⟩) (by decide) (by decide) wk_eA wc_eA (Or.inl ⟨3, d_L_limit_12, rfl, rfl⟩) rfl (by decide) ?_
  refine tk_iconst (pc := 13) (v := 2) d_L_limit_13 (by decide) ?_
  exact tk_ireturn (pc := 14) d_L_limit_14 rfl rfl (Nat.le_of_ble_eq_true rfl) (Nat.le_of_ble_eq_true rfl) ⟨rfl, rfl⟩
theorem wl_arrive_r {q : Int32} (hM : tk_M y_CP_arrive w_CP_arrive 10 1 6 [.ref 0, .int a0, .int a1] w (tk_det (.inl (some (.int q))) w1)) (hl : w1.length = w.length) (hx : w[0]? = some (.inr (0, F))) (ho : w1[45]? = some (.inl (1, 1, .inr (.inl o)))) : tk_M y_L_arrive w_L_arrive 11 1 6 [.ref 0, .int a0, .int a1, .ref 45] w (tk_det (.inl (some (.int 0))) (w1.set 45 (.inl (1, 1, .inr (.inl (vp_updL o 0 q.toInt64)))))) := by
  refine tk_M.ofW (lv := [some (.ref 0), some (.int a0), some (.int a1), some (.ref 45), none]) (by decide) (Nat.le_of_ble_eq_true rfl) rfl ?_
  refine tk_aload_n (pc := 0) d_L_arrive_0 rfl ?_
  refine tk_iconst (pc := 1) (v := 0) d_L_arrive_1 (by decide) ?_
  refine tk_aload_n (pc := 2) d_L_arrive_2 rfl ?_
  refine tk_iload_n (pc := 3) d_L_arrive_3 rfl ?_
  refine tk_iload_n (pc := 4) d_L_arrive_4 rfl ?_
  refine tk_callVr (pc := 5) d_L_arrive_5 l_L_27 k_CP_arrive hx rfl rfl hM hl (by omega) (Nat.le_of_ble_eq_true rfl) (Nat.le_of_ble_eq_true rfl) (Nat.le_of_ble_eq_true rfl) rfl rfl ?_
  refine tk_i2l (pc := 8) d_L_arrive_8 ?_
  refine tk_last (pc := 9) 0 d_L_arrive_9 ho rfl (by decide) (by decide) ?_
  refine tk_goto (pc := 10) (tgt := 25) d_L_arrive_10 (by decide) ?_
  refine tk_iconst (pc := 25) (v := 0) d_L_arrive_25 (by decide) ?_
  exact tk_ireturn (pc := 26) d_L_arrive_26 rfl rfl (Nat.le_of_ble_eq_true rfl) (Nat.le_of_ble_eq_true rfl) ⟨rfl, rfl⟩
theorem wl_arrive_1 (hM : tk_M y_CP_arrive w_CP_arrive 10 1 6 [.ref 0, .int a0, .int a1] w (tk_det (.inr eI) w1)) (hl : w1.length = w.length) (hx : w[0]? = some (.inr (0, F))) : tk_M y_L_arrive w_L_arrive 11 1 6 [.ref 0, .int a0, .int a1, .ref 45] w (tk_det (.inl (some (.int 1))) w1) := by
  refine tk_M.ofW (lv := [some (.ref 0), some (.int a0), some (.int a1), some (.ref 45), none]) (by decide) (Nat.le_of_ble_eq_true rfl) rfl ?_
  refine tk_aload_n (pc := 0) d_L_arrive_0 rfl ?_
  refine tk_iconst (pc := 1) (v := 0) d_L_arrive_1 (by decide) ?_
  refine tk_aload_n (pc := 2) d_L_arrive_2 rfl ?_
  refine tk_iload_n (pc := 3) d_L_arrive_3 rfl ?_
  refine tk_iload_n (pc := 4) d_L_arrive_4 rfl ?_
  refine tk_callVx (pc := 5) d_L_arrive_5 l_L_27 k_CP_arrive hx rfl rfl hM hl (by omega) (Nat.le_of_ble_eq_true rfl) (Nat.le_of_ble_eq_true rfl) (Nat.le_of_ble_eq_true rfl) rfl rfl ?_
  refine tk_X.catch (pre := []) (a0 := 0) (a1 := 10) (hp := 13) (ct := 21) (i := 4) (len := 2) rfl (fun z hz => by cases hz) (by decide) (by decide) wk_eI wc_eI (Or.inr ⟨d_L_arrive_13, rfl⟩) rfl (by decide) ?_
  refine tk_iconst (pc := 15) (v := 1) d_L_arrive_15 (by decide) ?_
  exact tk_ireturn (pc := 16) d_L_arrive_16 rfl rfl (Nat.le_of_ble_eq_true rfl) (Nat.le_of_ble_eq_true rfl) ⟨rfl, rfl⟩
theorem wl_arrive_2 (hM : tk_M y_CP_arrive w_CP_arrive 10 1 6 [.ref 0, .int a0, .int a1] w (tk_det (.inr eA) w1)) (hl : w1.length = w.length) (hx : w[0]? = some (.inr (0, F))) : tk_M y_L_arrive w_L_arrive 11 1 6 [.ref 0, .int a0, .int a1, .ref 45] w (tk_det (.inl (some (.int 2))) w1) := by
  refine tk_M.ofW (lv := [some (.ref 0), some (.int a0), some (.int a1), some (.ref 45), none]) (by decide) (Nat.le_of_ble_eq_true rfl) rfl ?_
  refine tk_aload_n (pc := 0) d_L_arrive_0 rfl ?_
  refine tk_iconst (pc := 1) (v := 0) d_L_arrive_1 (by decide) ?_
  refine tk_aload_n (pc := 2) d_L_arrive_2 rfl ?_
  refine tk_iload_n (pc := 3) d_L_arrive_3 rfl ?_
  refine tk_iload_n (pc := 4) d_L_arrive_4 rfl ?_
  refine tk_callVx (pc := 5) d_L_arrive_5 l_L_27 k_CP_arrive hx rfl rfl hM hl (by omega) (Nat.le_of_ble_eq_true rfl) (Nat.le_of_ble_eq_true rfl) (Nat.le_of_ble_eq_true rfl) rfl rfl ?_
  refine tk_X.catch (pre := [(0, 10, 13, 21)]) (a0 := 0) (a1 := 10) (hp := 17) (ct := 15) (i := 4) (len := 2) rfl (fun z hz => by
    simp only [List.mem_cons, List.not_mem_nil, or_false] at hz
    rcases hz with rfl
    · exact Or.inr ⟨by decide, eI, wk_eI, wn_eA_eI⟩) (by decide) (by decide) wk_eA wc_eA (Or.inr ⟨d_L_arrive_17, rfl⟩) rfl (by decide) ?_
  refine tk_iconst (pc := 19) (v := 2) d_L_arrive_19 (by decide) ?_
  exact tk_ireturn (pc := 20) d_L_arrive_20 rfl rfl (Nat.le_of_ble_eq_true rfl) (Nat.le_of_ble_eq_true rfl) ⟨rfl, rfl⟩
theorem wl_arrive_3 (hM : tk_M y_CP_arrive w_CP_arrive 10 1 6 [.ref 0, .int a0, .int a1] w (tk_det (.inr eU) w1)) (hl : w1.length = w.length) (hx : w[0]? = some (.inr (0, F))) : tk_M y_L_arrive w_L_arrive 11 1 6 [.ref 0, .int a0, .int a1, .ref 45] w (tk_det (.inl (some (.int 3))) w1) := by
  refine tk_M.ofW (lv := [some (.ref 0), some (.int a0), some (.int a1), some (.ref 45), none]) (by decide) (Nat.le_of_ble_eq_true rfl) rfl ?_
  refine tk_aload_n (pc := 0) d_L_arrive_0 rfl ?_
  refine tk_iconst (pc := 1) (v := 0) d_L_arrive_1 (by decide) ?_
  refine tk_aload_n (pc := 2) d_L_arrive_2 rfl ?_
  refine tk_iload_n (pc := 3) d_L_arrive_3 rfl ?_
  refine tk_iload_n (pc := 4) d_L_arrive_4 rfl ?_
  refine tk_callVx (pc := 5) d_L_arrive_5 l_L_27 k_CP_arrive hx rfl rfl hM hl (by omega) (Nat.le_of_ble_eq_true rfl) (Nat.le_of_ble_eq_true rfl) (Nat.le_of_ble_eq_true rfl) rfl rfl ?_
  refine tk_X.catch (pre := [(0, 10, 13, 21), (0, 10, 17, 15)]) (a0 := 0) (a1 := 10) (hp := 21) (ct := 31) (i := 4) (len := 2) rfl (fun z hz => by
    simp only [List.mem_cons, List.not_mem_nil, or_false] at hz
    rcases hz with rfl | rfl
    · exact Or.inr ⟨by decide, eI, wk_eI, wn_eU_eI⟩
    · exact Or.inr ⟨by decide, eA, wk_eA, wn_eU_eA⟩) (by decide) (by decide) wk_eU wc_eU (Or.inr ⟨d_L_arrive_21, rfl⟩) rfl (by decide) ?_
  refine tk_iconst (pc := 23) (v := 3) d_L_arrive_23 (by decide) ?_
  exact tk_ireturn (pc := 24) d_L_arrive_24 rfl rfl (Nat.le_of_ble_eq_true rfl) (Nat.le_of_ble_eq_true rfl) ⟨rfl, rfl⟩
theorem wl_heat_r {q : Int32} (hM : tk_M y_CP_heat w_CP_heat 10 1 6 [.ref 0, .int a0, .int a1] w (tk_det (.inl (some (.int q))) w1)) (hl : w1.length = w.length) (hx : w[0]? = some (.inr (0, F))) (ho : w1[45]? = some (.inl (1, 1, .inr (.inl o)))) : tk_M y_L_heat w_L_heat 11 1 6 [.ref 0, .int a0, .int a1, .ref 45] w (tk_det (.inl (some (.int 0))) (w1.set 45 (.inl (1, 1, .inr (.inl (vp_updL o 0 q.toInt64)))))) := by
  refine tk_M.ofW (lv := [some (.ref 0), some (.int a0), some (.int a1), some (.ref 45), none]) (by decide) (Nat.le_of_ble_eq_true rfl) rfl ?_
  refine tk_aload_n (pc := 0) d_L_heat_0 rfl ?_
  refine tk_iconst (pc := 1) (v := 0) d_L_heat_1 (by decide) ?_
  refine tk_aload_n (pc := 2) d_L_heat_2 rfl ?_
  refine tk_iload_n (pc := 3) d_L_heat_3 rfl ?_
  refine tk_iload_n (pc := 4) d_L_heat_4 rfl ?_
  refine tk_callVr (pc := 5) d_L_heat_5 l_L_33 k_CP_heat hx rfl rfl hM hl (by omega) (Nat.le_of_ble_eq_true rfl) (Nat.le_of_ble_eq_true rfl) (Nat.le_of_ble_eq_true rfl) rfl rfl ?_
  refine tk_i2l (pc := 8) d_L_heat_8 ?_
  refine tk_last (pc := 9) 0 d_L_heat_9 ho rfl (by decide) (by decide) ?_
  refine tk_goto (pc := 10) (tgt := 21) d_L_heat_10 (by decide) ?_
  refine tk_iconst (pc := 21) (v := 0) d_L_heat_21 (by decide) ?_
  exact tk_ireturn (pc := 22) d_L_heat_22 rfl rfl (Nat.le_of_ble_eq_true rfl) (Nat.le_of_ble_eq_true rfl) ⟨rfl, rfl⟩
theorem wl_heat_1 (hM : tk_M y_CP_heat w_CP_heat 10 1 6 [.ref 0, .int a0, .int a1] w (tk_det (.inr eS) w1)) (hl : w1.length = w.length) (hx : w[0]? = some (.inr (0, F))) : tk_M y_L_heat w_L_heat 11 1 6 [.ref 0, .int a0, .int a1, .ref 45] w (tk_det (.inl (some (.int 1))) w1) := by
  refine tk_M.ofW (lv := [some (.ref 0), some (.int a0), some (.int a1), some (.ref 45), none]) (by decide) (Nat.le_of_ble_eq_true rfl) rfl ?_
  refine tk_aload_n (pc := 0) d_L_heat_0 rfl ?_
  refine tk_iconst (pc := 1) (v := 0) d_L_heat_1 (by decide) ?_
  refine tk_aload_n (pc := 2) d_L_heat_2 rfl ?_
  refine tk_iload_n (pc := 3) d_L_heat_3 rfl ?_
  refine tk_iload_n (pc := 4) d_L_heat_4 rfl ?_
  refine tk_callVx (pc := 5) d_L_heat_5 l_L_33 k_CP_heat hx rfl rfl hM hl (by omega) (Nat.le_of_ble_eq_true rfl) (Nat.le_of_ble_eq_true rfl) (Nat.le_of_ble_eq_true rfl) rfl rfl ?_
  refine tk_X.catch (pre := []) (a0 := 0) (a1 := 10) (hp := 13) (ct := 13) (i := 4) (len := 2) rfl (fun z hz => by cases hz) (by decide) (by decide) wk_eS wc_eS (Or.inr ⟨d_L_heat_13, rfl⟩) rfl (by decide) ?_
  refine tk_iconst (pc := 15) (v := 1) d_L_heat_15 (by decide) ?_
  exact tk_ireturn (pc := 16) d_L_heat_16 rfl rfl (Nat.le_of_ble_eq_true rfl) (Nat.le_of_ble_eq_true rfl) ⟨rfl, rfl⟩
theorem wl_heat_2 (hM : tk_M y_CP_heat w_CP_heat 10 1 6 [.ref 0, .int a0, .int a1] w (tk_det (.inr eA) w1)) (hl : w1.length = w.length) (hx : w[0]? = some (.inr (0, F))) : tk_M y_L_heat w_L_heat 11 1 6 [.ref 0, .int a0, .int a1, .ref 45] w (tk_det (.inl (some (.int 2))) w1) := by
  refine tk_M.ofW (lv := [some (.ref 0), some (.int a0), some (.int a1), some (.ref 45), none]) (by decide) (Nat.le_of_ble_eq_true rfl) rfl ?_
  refine tk_aload_n (pc := 0) d_L_heat_0 rfl ?_
  refine tk_iconst (pc := 1) (v := 0) d_L_heat_1 (by decide) ?_
  refine tk_aload_n (pc := 2) d_L_heat_2 rfl ?_
  refine tk_iload_n (pc := 3) d_L_heat_3 rfl ?_
  refine tk_iload_n (pc := 4) d_L_heat_4 rfl ?_
  refine tk_callVx (pc := 5) d_L_heat_5 l_L_33 k_CP_heat hx rfl rfl hM hl (by omega) (Nat.le_of_ble_eq_true rfl) (Nat.le_of_ble_eq_true rfl) (Nat.le_of_ble_eq_true rfl) rfl rfl ?_
  refine tk_X.catch (pre := [(0, 10, 13, 13)]) (a0 := 0) (a1 := 10) (hp := 17) (ct := 15) (i := 4) (len := 2) rfl (fun z hz => by
    simp only [List.mem_cons, List.not_mem_nil, or_false] at hz
    rcases hz with rfl
    · exact Or.inr ⟨by decide, eS, wk_eS, wn_eA_eS⟩) (by decide) (by decide) wk_eA wc_eA (Or.inr ⟨d_L_heat_17, rfl⟩) rfl (by decide) ?_
  refine tk_iconst (pc := 19) (v := 2) d_L_heat_19 (by decide) ?_
  exact tk_ireturn (pc := 20) d_L_heat_20 rfl rfl (Nat.le_of_ble_eq_true rfl) (Nat.le_of_ble_eq_true rfl) ⟨rfl, rfl⟩
theorem wl_span_r (hM : tk_M y_CP_span w_CP_span 10 1 6 [.ref 0, .int a0, .int a1, .int a2, .int a3] w (tk_det (.inl none) w1)) (hl : w1.length = w.length) (hx : w[0]? = some (.inr (0, F))) : tk_M y_L_span w_L_span 11 1 6 [.ref 0, .int a0, .int a1, .int a2, .int a3] w (tk_det (.inl (some (.int 0))) w1) := by
  refine tk_M.ofW (lv := [some (.ref 0), some (.int a0), some (.int a1), some (.int a2), some (.int a3), none]) (by decide) (Nat.le_of_ble_eq_true rfl) rfl ?_
  refine tk_aload_n (pc := 0) d_L_span_0 rfl ?_
  refine tk_iload_n (pc := 1) d_L_span_1 rfl ?_
  refine tk_iload_n (pc := 2) d_L_span_2 rfl ?_
  refine tk_iload_n (pc := 3) d_L_span_3 rfl ?_
  refine tk_iload (pc := 4) d_L_span_4 rfl ?_
  refine tk_callVr (pc := 6) d_L_span_6 l_L_36 k_CP_span hx rfl rfl hM hl (by omega) (Nat.le_of_ble_eq_true rfl) (Nat.le_of_ble_eq_true rfl) (Nat.le_of_ble_eq_true rfl) rfl rfl ?_
  refine tk_goto (pc := 9) (tgt := 20) d_L_span_9 (by decide) ?_
  refine tk_iconst (pc := 20) (v := 0) d_L_span_20 (by decide) ?_
  exact tk_ireturn (pc := 21) d_L_span_21 rfl rfl (Nat.le_of_ble_eq_true rfl) (Nat.le_of_ble_eq_true rfl) ⟨rfl, rfl⟩
theorem wl_span_1 (hM : tk_M y_CP_span w_CP_span 10 1 6 [.ref 0, .int a0, .int a1, .int a2, .int a3] w (tk_det (.inr eI) w1)) (hl : w1.length = w.length) (hx : w[0]? = some (.inr (0, F))) : tk_M y_L_span w_L_span 11 1 6 [.ref 0, .int a0, .int a1, .int a2, .int a3] w (tk_det (.inl (some (.int 1))) w1) := by
  refine tk_M.ofW (lv := [some (.ref 0), some (.int a0), some (.int a1), some (.int a2), some (.int a3), none]) (by decide) (Nat.le_of_ble_eq_true rfl) rfl ?_
  refine tk_aload_n (pc := 0) d_L_span_0 rfl ?_
  refine tk_iload_n (pc := 1) d_L_span_1 rfl ?_
  refine tk_iload_n (pc := 2) d_L_span_2 rfl ?_
  refine tk_iload_n (pc := 3) d_L_span_3 rfl ?_
  refine tk_iload (pc := 4) d_L_span_4 rfl ?_
  refine tk_callVx (pc := 6) d_L_span_6 l_L_36 k_CP_span hx rfl rfl hM hl (by omega) (Nat.le_of_ble_eq_true rfl) (Nat.le_of_ble_eq_true rfl) (Nat.le_of_ble_eq_true rfl) rfl rfl ?_
  refine tk_X.catch (pre := []) (a0 := 0) (a1 := 9) (hp := 12) (ct := 21) (i := 5) (len := 2) rfl (fun z hz => by cases hz) (by decide) (by decide) wk_eI wc_eI (Or.inr ⟨d_L_span_12, rfl⟩) rfl (by decide) ?_
  refine tk_iconst (pc := 14) (v := 1) d_L_span_14 (by decide) ?_
  exact tk_ireturn (pc := 15) d_L_span_15 rfl rfl (Nat.le_of_ble_eq_true rfl) (Nat.le_of_ble_eq_true rfl) ⟨rfl, rfl⟩
theorem wl_span_2 (hM : tk_M y_CP_span w_CP_span 10 1 6 [.ref 0, .int a0, .int a1, .int a2, .int a3] w (tk_det (.inr eA) w1)) (hl : w1.length = w.length) (hx : w[0]? = some (.inr (0, F))) : tk_M y_L_span w_L_span 11 1 6 [.ref 0, .int a0, .int a1, .int a2, .int a3] w (tk_det (.inl (some (.int 2))) w1) := by
  refine tk_M.ofW (lv := [some (.ref 0), some (.int a0), some (.int a1), some (.int a2), some (.int a3), none]) (by decide) (Nat.le_of_ble_eq_true rfl) rfl ?_
  refine tk_aload_n (pc := 0) d_L_span_0 rfl ?_
  refine tk_iload_n (pc := 1) d_L_span_1 rfl ?_
  refine tk_iload_n (pc := 2) d_L_span_2 rfl ?_
  refine tk_iload_n (pc := 3) d_L_span_3 rfl ?_
  refine tk_iload (pc := 4) d_L_span_4 rfl ?_
  refine tk_callVx (pc := 6) d_L_span_6 l_L_36 k_CP_span hx rfl rfl hM hl (by omega) (Nat.le_of_ble_eq_true rfl) (Nat.le_of_ble_eq_true rfl) (Nat.le_of_ble_eq_true rfl) rfl rfl ?_
  refine tk_X.catch (pre := [(0, 9, 12, 21)]) (a0 := 0) (a1 := 9) (hp := 16) (ct := 15) (i := 5) (len := 2) rfl (fun z hz => by
    simp only [List.mem_cons, List.not_mem_nil, or_false] at hz
    rcases hz with rfl
    · exact Or.inr ⟨by decide, eI, wk_eI, wn_eA_eI⟩) (by decide) (by decide) wk_eA wc_eA (Or.inr ⟨d_L_span_16, rfl⟩) rfl (by decide) ?_
  refine tk_iconst (pc := 18) (v := 2) d_L_span_18 (by decide) ?_
  exact tk_ireturn (pc := 19) d_L_span_19 rfl rfl (Nat.le_of_ble_eq_true rfl) (Nat.le_of_ble_eq_true rfl) ⟨rfl, rfl⟩
theorem wl_most_r (hM : tk_M y_CP_most w_CP_most 10 1 6 [.ref 0, .int a0, .int a1] w (tk_det (.inl none) w1)) (hl : w1.length = w.length) (hx : w[0]? = some (.inr (0, F))) : tk_M y_L_most w_L_most 11 1 6 [.ref 0, .int a0, .int a1] w (tk_det (.inl (some (.int 0))) w1) := by
  refine tk_M.ofW (lv := [some (.ref 0), some (.int a0), some (.int a1), none]) (by decide) (Nat.le_of_ble_eq_true rfl) rfl ?_
  refine tk_aload_n (pc := 0) d_L_most_0 rfl ?_
  refine tk_iload_n (pc := 1) d_L_most_1 rfl ?_
  refine tk_iload_n (pc := 2) d_L_most_2 rfl ?_
  refine tk_callVr (pc := 3) d_L_most_3 l_L_39 k_CP_most hx rfl rfl hM hl (by omega) (Nat.le_of_ble_eq_true rfl) (Nat.le_of_ble_eq_true rfl) (Nat.le_of_ble_eq_true rfl) rfl rfl ?_
  refine tk_goto (pc := 6) (tgt := 15) d_L_most_6 (by decide) ?_
  refine tk_iconst (pc := 15) (v := 0) d_L_most_15 (by decide) ?_
  exact tk_ireturn (pc := 16) d_L_most_16 rfl rfl (Nat.le_of_ble_eq_true rfl) (Nat.le_of_ble_eq_true rfl) ⟨rfl, rfl⟩
theorem wl_most_1 (hM : tk_M y_CP_most w_CP_most 10 1 6 [.ref 0, .int a0, .int a1] w (tk_det (.inr eI) w1)) (hl : w1.length = w.length) (hx : w[0]? = some (.inr (0, F))) : tk_M y_L_most w_L_most 11 1 6 [.ref 0, .int a0, .int a1] w (tk_det (.inl (some (.int 1))) w1) := by
  refine tk_M.ofW (lv := [some (.ref 0), some (.int a0), some (.int a1), none]) (by decide) (Nat.le_of_ble_eq_true rfl) rfl ?_
  refine tk_aload_n (pc := 0) d_L_most_0 rfl ?_
  refine tk_iload_n (pc := 1) d_L_most_1 rfl ?_
  refine tk_iload_n (pc := 2) d_L_most_2 rfl ?_
  refine tk_callVx (pc := 3) d_L_most_3 l_L_39 k_CP_most hx rfl rfl hM hl (by omega) (Nat.le_of_ble_eq_true rfl) (Nat.le_of_ble_eq_true rfl) (Nat.le_of_ble_eq_true rfl) rfl rfl ?_
  refine tk_X.catch (pre := []) (a0 := 0) (a1 := 6) (hp := 9) (ct := 21) (i := 3) (len := 1) rfl (fun z hz => by cases hz) (by decide) (by decide) wk_eI wc_eI (Or.inl ⟨3, d_L_most_9, rfl, rfl⟩) rfl (by decide) ?_
  refine tk_iconst (pc := 10) (v := 1) d_L_most_10 (by decide) ?_
  exact tk_ireturn (pc := 11) d_L_most_11 rfl rfl (Nat.le_of_ble_eq_true rfl) (Nat.le_of_ble_eq_true rfl) ⟨rfl, rfl⟩
theorem wl_most_2 (hM : tk_M y_CP_most w_CP_most 10 1 6 [.ref 0, .int a0, .int a1] w (tk_det (.inr eA) w1)) (hl : w1.length = w.length) (hx : w[0]? = some (.inr (0, F))) : tk_M y_L_most w_L_most 11 1 6 [.ref 0, .int a0, .int a1] w (tk_det (.inl (some (.int 2))) w1) := by
  refine tk_M.ofW (lv := [some (.ref 0), some (.int a0), some (.int a1), none]) (by decide) (Nat.le_of_ble_eq_true rfl) rfl ?_
  refine tk_aload_n (pc := 0) d_L_most_0 rfl ?_
  refine tk_iload_n (pc := 1) d_L_most_1 rfl ?_
  refine tk_iload_n (pc := 2) d_L_most_2 rfl ?_
  refine tk_callVx (pc := 3) d_L_most_3 l_L_39 k_CP_most hx rfl rfl hM hl (by omega) (Nat.le_of_ble_eq_true rfl) (Nat.le_of_ble_eq_true rfl) (Nat.le_of_ble_eq_true rfl) rfl rfl ?_
  refine tk_X.catch (pre := [(0, 6, 9, 21)]) (a0 := 0) (a1 := 6) (hp := 12) (ct := 15) (i := 3) (len := 1) rfl (fun z hz => by
    simp only [List.mem_cons, List.not_mem_nil, or_false] at hz
    rcases hz with rfl
    · exact Or.inr ⟨by decide, eI, wk_eI, wn_eA_eI⟩) (by decide) (by decide) wk_eA wc_eA (Or.inl ⟨3, d_L_most_12, rfl, rfl⟩) rfl (by decide) ?_
  refine tk_iconst (pc := 13) (v := 2) d_L_most_13 (by decide) ?_
  exact tk_ireturn (pc := 14) d_L_most_14 rfl rfl (Nat.le_of_ble_eq_true rfl) (Nat.le_of_ble_eq_true rfl) ⟨rfl, rfl⟩
theorem wl_plan_r {q : Int32} (hM : tk_M y_CP_plan w_CP_plan 10 1 6 [.ref 0, .int a0, .int a1] w (tk_det (.inl (some (.int q))) w1)) (hl : w1.length = w.length) (hx : w[0]? = some (.inr (0, F))) (ho : w1[45]? = some (.inl (1, 1, .inr (.inl o)))) : tk_M y_L_plan w_L_plan 11 1 6 [.ref 0, .int a0, .int a1, .ref 45] w (tk_det (.inl (some (.int 0))) (w1.set 45 (.inl (1, 1, .inr (.inl (vp_updL o 0 q.toInt64)))))) := by
  refine tk_M.ofW (lv := [some (.ref 0), some (.int a0), some (.int a1), some (.ref 45), none]) (by decide) (Nat.le_of_ble_eq_true rfl) rfl ?_
  refine tk_aload_n (pc := 0) d_L_plan_0 rfl ?_
  refine tk_iconst (pc := 1) (v := 0) d_L_plan_1 (by decide) ?_
  refine tk_aload_n (pc := 2) d_L_plan_2 rfl ?_
  refine tk_iload_n (pc := 3) d_L_plan_3 rfl ?_
  refine tk_iload_n (pc := 4) d_L_plan_4 rfl ?_
  refine tk_callVr (pc := 5) d_L_plan_5 l_L_42 k_CP_plan hx rfl rfl hM hl (by omega) (Nat.le_of_ble_eq_true rfl) (Nat.le_of_ble_eq_true rfl) (Nat.le_of_ble_eq_true rfl) rfl rfl ?_
  refine tk_i2l (pc := 8) d_L_plan_8 ?_
  refine tk_last (pc := 9) 0 d_L_plan_9 ho rfl (by decide) (by decide) ?_
  refine tk_goto (pc := 10) (tgt := 21) d_L_plan_10 (by decide) ?_
  refine tk_iconst (pc := 21) (v := 0) d_L_plan_21 (by decide) ?_
  exact tk_ireturn (pc := 22) d_L_plan_22 rfl rfl (Nat.le_of_ble_eq_true rfl) (Nat.le_of_ble_eq_true rfl) ⟨rfl, rfl⟩
theorem wl_plan_1 (hM : tk_M y_CP_plan w_CP_plan 10 1 6 [.ref 0, .int a0, .int a1] w (tk_det (.inr eI) w1)) (hl : w1.length = w.length) (hx : w[0]? = some (.inr (0, F))) : tk_M y_L_plan w_L_plan 11 1 6 [.ref 0, .int a0, .int a1, .ref 45] w (tk_det (.inl (some (.int 1))) w1) := by
  refine tk_M.ofW (lv := [some (.ref 0), some (.int a0), some (.int a1), some (.ref 45), none]) (by decide) (Nat.le_of_ble_eq_true rfl) rfl ?_
  refine tk_aload_n (pc := 0) d_L_plan_0 rfl ?_
  refine tk_iconst (pc := 1) (v := 0) d_L_plan_1 (by decide) ?_
  refine tk_aload_n (pc := 2) d_L_plan_2 rfl ?_
  refine tk_iload_n (pc := 3) d_L_plan_3 rfl ?_
  refine tk_iload_n (pc := 4) d_L_plan_4 rfl ?_
  refine tk_callVx (pc := 5) d_L_plan_5 l_L_42 k_CP_plan hx rfl rfl hM hl (by omega) (Nat.le_of_ble_eq_true rfl) (Nat.le_of_ble_eq_true rfl) (Nat.le_of_ble_eq_true rfl) rfl rfl ?_
  refine tk_X.catch (pre := []) (a0 := 0) (a1 := 10) (hp := 13) (ct := 21) (i := 4) (len := 2) rfl (fun z hz => by cases hz) (by decide) (by decide) wk_eI wc_eI (Or.inr ⟨d_L_plan_13, rfl⟩) rfl (by decide) ?_
  refine tk_iconst (pc := 15) (v := 1) d_L_plan_15 (by decide) ?_
  exact tk_ireturn (pc := 16) d_L_plan_16 rfl rfl (Nat.le_of_ble_eq_true rfl) (Nat.le_of_ble_eq_true rfl) ⟨rfl, rfl⟩
theorem wl_plan_2 (hM : tk_M y_CP_plan w_CP_plan 10 1 6 [.ref 0, .int a0, .int a1] w (tk_det (.inr eA) w1)) (hl : w1.length = w.length) (hx : w[0]? = some (.inr (0, F))) : tk_M y_L_plan w_L_plan 11 1 6 [.ref 0, .int a0, .int a1, .ref 45] w (tk_det (.inl (some (.int 2))) w1) := by
  refine tk_M.ofW (lv := [some (.ref 0), some (.int a0), some (.int a1), some (.ref 45), none]) (by decide) (Nat.le_of_ble_eq_true rfl) rfl ?_
  refine tk_aload_n (pc := 0) d_L_plan_0 rfl ?_
  refine tk_iconst (pc := 1) (v := 0) d_L_plan_1 (by decide) ?_
  refine tk_aload_n (pc := 2) d_L_plan_2 rfl ?_
  refine tk_iload_n (pc := 3) d_L_plan_3 rfl ?_
  refine tk_iload_n (pc := 4) d_L_plan_4 rfl ?_
  refine tk_callVx (pc := 5) d_L_plan_5 l_L_42 k_CP_plan hx rfl rfl hM hl (by omega) (Nat.le_of_ble_eq_true rfl) (Nat.le_of_ble_eq_true rfl) (Nat.le_of_ble_eq_true rfl) rfl rfl ?_
  refine tk_X.catch (pre := [(0, 10, 13, 21)]) (a0 := 0) (a1 := 10) (hp := 17) (ct := 15) (i := 4) (len := 2) rfl (fun z hz => by
    simp only [List.mem_cons, List.not_mem_nil, or_false] at hz
    rcases hz with rfl
    · exact Or.inr ⟨by decide, eI, wk_eI, wn_eA_eI⟩) (by decide) (by decide) wk_eA wc_eA (Or.inr ⟨d_L_plan_17, rfl⟩) rfl (by decide) ?_
  refine tk_iconst (pc := 19) (v := 2) d_L_plan_19 (by decide) ?_
  exact tk_ireturn (pc := 20) d_L_plan_20 rfl rfl (Nat.le_of_ble_eq_true rfl) (Nat.le_of_ble_eq_true rfl) ⟨rfl, rfl⟩
theorem wl_planned_r {q : Int32} (hM : tk_M y_CP_planned w_CP_planned 10 1 6 [.ref 0, .int a0] w (tk_det (.inl (some (.int q))) w1)) (hl : w1.length = w.length) (hx : w[0]? = some (.inr (0, F))) (ho : w1[45]? = some (.inl (1, 1, .inr (.inl o)))) : tk_M y_L_planned w_L_planned 11 1 6 [.ref 0, .int a0, .ref 45] w (tk_det (.inl (some (.int 0))) (w1.set 45 (.inl (1, 1, .inr (.inl (vp_updL o 0 q.toInt64)))))) := by
  refine tk_M.ofW (lv := [some (.ref 0), some (.int a0), some (.ref 45), none]) (by decide) (Nat.le_of_ble_eq_true rfl) rfl ?_
  refine tk_aload_n (pc := 0) d_L_planned_0 rfl ?_
  refine tk_iconst (pc := 1) (v := 0) d_L_planned_1 (by decide) ?_
  refine tk_aload_n (pc := 2) d_L_planned_2 rfl ?_
  refine tk_iload_n (pc := 3) d_L_planned_3 rfl ?_
  refine tk_callVr (pc := 4) d_L_planned_4 l_L_45 k_CP_planned hx rfl rfl hM hl (by omega) (Nat.le_of_ble_eq_true rfl) (Nat.le_of_ble_eq_true rfl) (Nat.le_of_ble_eq_true rfl) rfl rfl ?_
  refine tk_i2l (pc := 7) d_L_planned_7 ?_
  refine tk_last (pc := 8) 0 d_L_planned_8 ho rfl (by decide) (by decide) ?_
  refine tk_goto (pc := 9) (tgt := 18) d_L_planned_9 (by decide) ?_
  refine tk_iconst (pc := 18) (v := 0) d_L_planned_18 (by decide) ?_
  exact tk_ireturn (pc := 19) d_L_planned_19 rfl rfl (Nat.le_of_ble_eq_true rfl) (Nat.le_of_ble_eq_true rfl) ⟨rfl, rfl⟩
theorem wl_planned_1 (hM : tk_M y_CP_planned w_CP_planned 10 1 6 [.ref 0, .int a0] w (tk_det (.inr eI) w1)) (hl : w1.length = w.length) (hx : w[0]? = some (.inr (0, F))) : tk_M y_L_planned w_L_planned 11 1 6 [.ref 0, .int a0, .ref 45] w (tk_det (.inl (some (.int 1))) w1) := by
  refine tk_M.ofW (lv := [some (.ref 0), some (.int a0), some (.ref 45), none]) (by decide) (Nat.le_of_ble_eq_true rfl) rfl ?_
  refine tk_aload_n (pc := 0) d_L_planned_0 rfl ?_
  refine tk_iconst (pc := 1) (v := 0) d_L_planned_1 (by decide) ?_
  refine tk_aload_n (pc := 2) d_L_planned_2 rfl ?_
  refine tk_iload_n (pc := 3) d_L_planned_3 rfl ?_
  refine tk_callVx (pc := 4) d_L_planned_4 l_L_45 k_CP_planned hx rfl rfl hM hl (by omega) (Nat.le_of_ble_eq_true rfl) (Nat.le_of_ble_eq_true rfl) (Nat.le_of_ble_eq_true rfl) rfl rfl ?_
  refine tk_X.catch (pre := []) (a0 := 0) (a1 := 9) (hp := 12) (ct := 21) (i := 3) (len := 1) rfl (fun z hz => by cases hz) (by decide) (by decide) wk_eI wc_eI (Or.inl ⟨3, d_L_planned_12, rfl, rfl⟩) rfl (by decide) ?_
  refine tk_iconst (pc := 13) (v := 1) d_L_planned_13 (by decide) ?_
  exact tk_ireturn (pc := 14) d_L_planned_14 rfl rfl (Nat.le_of_ble_eq_true rfl) (Nat.le_of_ble_eq_true rfl) ⟨rfl, rfl⟩
theorem wl_planned_2 (hM : tk_M y_CP_planned w_CP_planned 10 1 6 [.ref 0, .int a0] w (tk_det (.inr eS) w1)) (hl : w1.length = w.length) (hx : w[0]? = some (.inr (0, F))) : tk_M y_L_planned w_L_planned 11 1 6 [.ref 0, .int a0, .ref 45] w (tk_det (.inl (some (.int 2))) w1) := by
  refine tk_M.ofW (lv := [some (.ref 0), some (.int a0), some (.ref 45), none]) (by decide) (Nat.le_of_ble_eq_true rfl) rfl ?_
  refine tk_aload_n (pc := 0) d_L_planned_0 rfl ?_
  refine tk_iconst (pc := 1) (v := 0) d_L_planned_1 (by decide) ?_
  refine tk_aload_n (pc := 2) d_L_planned_2 rfl ?_
  refine tk_iload_n (pc := 3) d_L_planned_3 rfl ?_
  refine tk_callVx (pc := 4) d_L_planned_4 l_L_45 k_CP_planned hx rfl rfl hM hl (by omega) (Nat.le_of_ble_eq_true rfl) (Nat.le_of_ble_eq_true rfl) (Nat.le_of_ble_eq_true rfl) rfl rfl ?_
  refine tk_X.catch (pre := [(0, 9, 12, 21)]) (a0 := 0) (a1 := 9) (hp := 15) (ct := 13) (i := 3) (len := 1) rfl (fun z hz => by
    simp only [List.mem_cons, List.not_mem_nil, or_false] at hz
    rcases hz with rfl
    · exact Or.inr ⟨by decide, eI, wk_eI, wn_eS_eI⟩) (by decide) (by decide) wk_eS wc_eS (Or.inl ⟨3, d_L_planned_15, rfl, rfl⟩) rfl (by decide) ?_
  refine tk_iconst (pc := 16) (v := 2) d_L_planned_16 (by decide) ?_
  exact tk_ireturn (pc := 17) d_L_planned_17 rfl rfl (Nat.le_of_ble_eq_true rfl) (Nat.le_of_ble_eq_true rfl) ⟨rfl, rfl⟩
theorem wl_amount_r {q : Int32} (hM : tk_M y_CP_amount w_CP_amount 10 1 6 [.ref 0, .int a0, .int a1] w (tk_det (.inl (some (.int q))) w1)) (hl : w1.length = w.length) (hx : w[0]? = some (.inr (0, F))) (ho : w1[45]? = some (.inl (1, 1, .inr (.inl o)))) : tk_M y_L_amount w_L_amount 11 1 6 [.ref 0, .int a0, .int a1, .ref 45] w (tk_det (.inl (some (.int 0))) (w1.set 45 (.inl (1, 1, .inr (.inl (vp_updL o 0 q.toInt64)))))) := by
  refine tk_M.ofW (lv := [some (.ref 0), some (.int a0), some (.int a1), some (.ref 45), none]) (by decide) (Nat.le_of_ble_eq_true rfl) rfl ?_
  refine tk_aload_n (pc := 0) d_L_amount_0 rfl ?_
  refine tk_iconst (pc := 1) (v := 0) d_L_amount_1 (by decide) ?_
  refine tk_aload_n (pc := 2) d_L_amount_2 rfl ?_
  refine tk_iload_n (pc := 3) d_L_amount_3 rfl ?_
  refine tk_iload_n (pc := 4) d_L_amount_4 rfl ?_
  refine tk_callVr (pc := 5) d_L_amount_5 l_L_49 k_CP_amount hx rfl rfl hM hl (by omega) (Nat.le_of_ble_eq_true rfl) (Nat.le_of_ble_eq_true rfl) (Nat.le_of_ble_eq_true rfl) rfl rfl ?_
  refine tk_i2l (pc := 8) d_L_amount_8 ?_
  refine tk_last (pc := 9) 0 d_L_amount_9 ho rfl (by decide) (by decide) ?_
  refine tk_goto (pc := 10) (tgt := 21) d_L_amount_10 (by decide) ?_
  refine tk_iconst (pc := 21) (v := 0) d_L_amount_21 (by decide) ?_
  exact tk_ireturn (pc := 22) d_L_amount_22 rfl rfl (Nat.le_of_ble_eq_true rfl) (Nat.le_of_ble_eq_true rfl) ⟨rfl, rfl⟩
theorem wl_amount_1 (hM : tk_M y_CP_amount w_CP_amount 10 1 6 [.ref 0, .int a0, .int a1] w (tk_det (.inr eI) w1)) (hl : w1.length = w.length) (hx : w[0]? = some (.inr (0, F))) : tk_M y_L_amount w_L_amount 11 1 6 [.ref 0, .int a0, .int a1, .ref 45] w (tk_det (.inl (some (.int 1))) w1) := by
  refine tk_M.ofW (lv := [some (.ref 0), some (.int a0), some (.int a1), some (.ref 45), none]) (by decide) (Nat.le_of_ble_eq_true rfl) rfl ?_
  refine tk_aload_n (pc := 0) d_L_amount_0 rfl ?_
  refine tk_iconst (pc := 1) (v := 0) d_L_amount_1 (by decide) ?_
  refine tk_aload_n (pc := 2) d_L_amount_2 rfl ?_
  refine tk_iload_n (pc := 3) d_L_amount_3 rfl ?_
  refine tk_iload_n (pc := 4) d_L_amount_4 rfl ?_
  refine tk_callVx (pc := 5) d_L_amount_5 l_L_49 k_CP_amount hx rfl rfl hM hl (by omega) (Nat.le_of_ble_eq_true rfl) (Nat.le_of_ble_eq_true rfl) (Nat.le_of_ble_eq_true rfl) rfl rfl ?_
  refine tk_X.catch (pre := []) (a0 := 0) (a1 := 10) (hp := 13) (ct := 21) (i := 4) (len := 2) rfl (fun z hz => by cases hz) (by decide) (by decide) wk_eI wc_eI (Or.inr ⟨d_L_amount_13, rfl⟩) rfl (by decide) ?_
  refine tk_iconst (pc := 15) (v := 1) d_L_amount_15 (by decide) ?_
  exact tk_ireturn (pc := 16) d_L_amount_16 rfl rfl (Nat.le_of_ble_eq_true rfl) (Nat.le_of_ble_eq_true rfl) ⟨rfl, rfl⟩
theorem wl_amount_2 (hM : tk_M y_CP_amount w_CP_amount 10 1 6 [.ref 0, .int a0, .int a1] w (tk_det (.inr eS) w1)) (hl : w1.length = w.length) (hx : w[0]? = some (.inr (0, F))) : tk_M y_L_amount w_L_amount 11 1 6 [.ref 0, .int a0, .int a1, .ref 45] w (tk_det (.inl (some (.int 2))) w1) := by
  refine tk_M.ofW (lv := [some (.ref 0), some (.int a0), some (.int a1), some (.ref 45), none]) (by decide) (Nat.le_of_ble_eq_true rfl) rfl ?_
  refine tk_aload_n (pc := 0) d_L_amount_0 rfl ?_
  refine tk_iconst (pc := 1) (v := 0) d_L_amount_1 (by decide) ?_
  refine tk_aload_n (pc := 2) d_L_amount_2 rfl ?_
  refine tk_iload_n (pc := 3) d_L_amount_3 rfl ?_
  refine tk_iload_n (pc := 4) d_L_amount_4 rfl ?_
  refine tk_callVx (pc := 5) d_L_amount_5 l_L_49 k_CP_amount hx rfl rfl hM hl (by omega) (Nat.le_of_ble_eq_true rfl) (Nat.le_of_ble_eq_true rfl) (Nat.le_of_ble_eq_true rfl) rfl rfl ?_
  refine tk_X.catch (pre := [(0, 10, 13, 21)]) (a0 := 0) (a1 := 10) (hp := 17) (ct := 13) (i := 4) (len := 2) rfl (fun z hz => by
    simp only [List.mem_cons, List.not_mem_nil, or_false] at hz
    rcases hz with rfl
    · exact Or.inr ⟨by decide, eI, wk_eI, wn_eS_eI⟩) (by decide) (by decide) wk_eS wc_eS (Or.inr ⟨d_L_amount_17, rfl⟩) rfl (by decide) ?_
  refine tk_iconst (pc := 19) (v := 2) d_L_amount_19 (by decide) ?_
  exact tk_ireturn (pc := 20) d_L_amount_20 rfl rfl (Nat.le_of_ble_eq_true rfl) (Nat.le_of_ble_eq_true rfl) ⟨rfl, rfl⟩
theorem wl_worst_r {q : Int64} (hM : tk_M y_CP_worst w_CP_worst 10 1 6 [.ref 0, .int a0, .int a1, .int a2, .int a3] w (tk_det (.inl (some (.long q))) w1)) (hl : w1.length = w.length) (hx : w[0]? = some (.inr (0, F))) (ho : w1[45]? = some (.inl (1, 1, .inr (.inl o)))) : tk_M y_L_worst w_L_worst 11 1 6 [.ref 0, .int a0, .int a1, .int a2, .int a3, .ref 45] w (tk_det (.inl (some (.int 0))) (w1.set 45 (.inl (1, 1, .inr (.inl (vp_updL o 0 q)))))) := by
  refine tk_M.ofW (lv := [some (.ref 0), some (.int a0), some (.int a1), some (.int a2), some (.int a3), some (.ref 45), none]) (by decide) (Nat.le_of_ble_eq_true rfl) rfl ?_
  refine tk_aload (pc := 0) d_L_worst_0 rfl ?_
  refine tk_iconst (pc := 2) (v := 0) d_L_worst_2 (by decide) ?_
  refine tk_aload_n (pc := 3) d_L_worst_3 rfl ?_
  refine tk_iload_n (pc := 4) d_L_worst_4 rfl ?_
  refine tk_iload_n (pc := 5) d_L_worst_5 rfl ?_
  refine tk_iload_n (pc := 6) d_L_worst_6 rfl ?_
  refine tk_iload (pc := 7) d_L_worst_7 rfl ?_
  refine tk_callVr (pc := 9) d_L_worst_9 l_L_52 k_CP_worst hx rfl rfl hM hl (by omega) (Nat.le_of_ble_eq_true rfl) (Nat.le_of_ble_eq_true rfl) (Nat.le_of_ble_eq_true rfl) rfl rfl ?_
  refine tk_last (pc := 12) 0 d_L_worst_12 ho rfl (by decide) (by decide) ?_
  refine tk_goto (pc := 13) (tgt := 28) d_L_worst_13 (by decide) ?_
  refine tk_iconst (pc := 28) (v := 0) d_L_worst_28 (by decide) ?_
  exact tk_ireturn (pc := 29) d_L_worst_29 rfl rfl (Nat.le_of_ble_eq_true rfl) (Nat.le_of_ble_eq_true rfl) ⟨rfl, rfl⟩
theorem wl_worst_1 (hM : tk_M y_CP_worst w_CP_worst 10 1 6 [.ref 0, .int a0, .int a1, .int a2, .int a3] w (tk_det (.inr eI) w1)) (hl : w1.length = w.length) (hx : w[0]? = some (.inr (0, F))) : tk_M y_L_worst w_L_worst 11 1 6 [.ref 0, .int a0, .int a1, .int a2, .int a3, .ref 45] w (tk_det (.inl (some (.int 1))) w1) := by
  refine tk_M.ofW (lv := [some (.ref 0), some (.int a0), some (.int a1), some (.int a2), some (.int a3), some (.ref 45), none]) (by decide) (Nat.le_of_ble_eq_true rfl) rfl ?_
  refine tk_aload (pc := 0) d_L_worst_0 rfl ?_
  refine tk_iconst (pc := 2) (v := 0) d_L_worst_2 (by decide) ?_
  refine tk_aload_n (pc := 3) d_L_worst_3 rfl ?_
  refine tk_iload_n (pc := 4) d_L_worst_4 rfl ?_
  refine tk_iload_n (pc := 5) d_L_worst_5 rfl ?_
  refine tk_iload_n (pc := 6) d_L_worst_6 rfl ?_
  refine tk_iload (pc := 7) d_L_worst_7 rfl ?_
  refine tk_callVx (pc := 9) d_L_worst_9 l_L_52 k_CP_worst hx rfl rfl hM hl (by omega) (Nat.le_of_ble_eq_true rfl) (Nat.le_of_ble_eq_true rfl) (Nat.le_of_ble_eq_true rfl) rfl rfl ?_
  refine tk_X.catch (pre := []) (a0 := 0) (a1 := 13) (hp := 16) (ct := 21) (i := 6) (len := 2) rfl (fun z hz => by cases hz) (by decide) (by decide) wk_eI wc_eI (Or.inr ⟨d_L_worst_16, rfl⟩) rfl (by decide) ?_
  refine tk_iconst (pc := 18) (v := 1) d_L_worst_18 (by decide) ?_
  exact tk_ireturn (pc := 19) d_L_worst_19 rfl rfl (Nat.le_of_ble_eq_true rfl) (Nat.le_of_ble_eq_true rfl) ⟨rfl, rfl⟩
theorem wl_worst_2 (hM : tk_M y_CP_worst w_CP_worst 10 1 6 [.ref 0, .int a0, .int a1, .int a2, .int a3] w (tk_det (.inr eS) w1)) (hl : w1.length = w.length) (hx : w[0]? = some (.inr (0, F))) : tk_M y_L_worst w_L_worst 11 1 6 [.ref 0, .int a0, .int a1, .int a2, .int a3, .ref 45] w (tk_det (.inl (some (.int 2))) w1) := by
  refine tk_M.ofW (lv := [some (.ref 0), some (.int a0), some (.int a1), some (.int a2), some (.int a3), some (.ref 45), none]) (by decide) (Nat.le_of_ble_eq_true rfl) rfl ?_
  refine tk_aload (pc := 0) d_L_worst_0 rfl ?_
  refine tk_iconst (pc := 2) (v := 0) d_L_worst_2 (by decide) ?_
  refine tk_aload_n (pc := 3) d_L_worst_3 rfl ?_
  refine tk_iload_n (pc := 4) d_L_worst_4 rfl ?_
  refine tk_iload_n (pc := 5) d_L_worst_5 rfl ?_
  refine tk_iload_n (pc := 6) d_L_worst_6 rfl ?_
  refine tk_iload (pc := 7) d_L_worst_7 rfl ?_
  refine tk_callVx (pc := 9) d_L_worst_9 l_L_52 k_CP_worst hx rfl rfl hM hl (by omega) (Nat.le_of_ble_eq_true rfl) (Nat.le_of_ble_eq_true rfl) (Nat.le_of_ble_eq_true rfl) rfl rfl ?_
  refine tk_X.catch (pre := [(0, 13, 16, 21)]) (a0 := 0) (a1 := 13) (hp := 20) (ct := 13) (i := 6) (len := 2) rfl (fun z hz => by
    simp only [List.mem_cons, List.not_mem_nil, or_false] at hz
    rcases hz with rfl
    · exact Or.inr ⟨by decide, eI, wk_eI, wn_eS_eI⟩) (by decide) (by decide) wk_eS wc_eS (Or.inr ⟨d_L_worst_20, rfl⟩) rfl (by decide) ?_
  refine tk_iconst (pc := 22) (v := 2) d_L_worst_22 (by decide) ?_
  exact tk_ireturn (pc := 23) d_L_worst_23 rfl rfl (Nat.le_of_ble_eq_true rfl) (Nat.le_of_ble_eq_true rfl) ⟨rfl, rfl⟩
theorem wl_worst_3 (hM : tk_M y_CP_worst w_CP_worst 10 1 6 [.ref 0, .int a0, .int a1, .int a2, .int a3] w (tk_det (.inr eU) w1)) (hl : w1.length = w.length) (hx : w[0]? = some (.inr (0, F))) : tk_M y_L_worst w_L_worst 11 1 6 [.ref 0, .int a0, .int a1, .int a2, .int a3, .ref 45] w (tk_det (.inl (some (.int 3))) w1) := by
  refine tk_M.ofW (lv := [some (.ref 0), some (.int a0), some (.int a1), some (.int a2), some (.int a3), some (.ref 45), none]) (by decide) (Nat.le_of_ble_eq_true rfl) rfl ?_
  refine tk_aload (pc := 0) d_L_worst_0 rfl ?_
  refine tk_iconst (pc := 2) (v := 0) d_L_worst_2 (by decide) ?_
  refine tk_aload_n (pc := 3) d_L_worst_3 rfl ?_
  refine tk_iload_n (pc := 4) d_L_worst_4 rfl ?_
  refine tk_iload_n (pc := 5) d_L_worst_5 rfl ?_
  refine tk_iload_n (pc := 6) d_L_worst_6 rfl ?_
  refine tk_iload (pc := 7) d_L_worst_7 rfl ?_
  refine tk_callVx (pc := 9) d_L_worst_9 l_L_52 k_CP_worst hx rfl rfl hM hl (by omega) (Nat.le_of_ble_eq_true rfl) (Nat.le_of_ble_eq_true rfl) (Nat.le_of_ble_eq_true rfl) rfl rfl ?_
  refine tk_X.catch (pre := [(0, 13, 16, 21), (0, 13, 20, 13)]) (a0 := 0) (a1 := 13) (hp := 24) (ct := 31) (i := 6) (len := 2) rfl (fun z hz => by
    simp only [List.mem_cons, List.not_mem_nil, or_false] at hz
    rcases hz with rfl | rfl
    · exact Or.inr ⟨by decide, eI, wk_eI, wn_eU_eI⟩
    · exact Or.inr ⟨by decide, eS, wk_eS, wn_eU_eS⟩) (by decide) (by decide) wk_eU wc_eU (Or.inr ⟨d_L_worst_24, rfl⟩) rfl (by decide) ?_
  refine tk_iconst (pc := 26) (v := 3) d_L_worst_26 (by decide) ?_
  exact tk_ireturn (pc := 27) d_L_worst_27 rfl rfl (Nat.le_of_ble_eq_true rfl) (Nat.le_of_ble_eq_true rfl) ⟨rfl, rfl⟩
theorem wl_bound_r {q : Int64} (hM : tk_M y_CP_bound w_CP_bound 10 1 6 [.ref 0, .int a0] w (tk_det (.inl (some (.long q))) w1)) (hl : w1.length = w.length) (hx : w[0]? = some (.inr (0, F))) (ho : w1[45]? = some (.inl (1, 1, .inr (.inl o)))) : tk_M y_L_bound w_L_bound 11 1 6 [.ref 0, .int a0, .ref 45] w (tk_det (.inl (some (.int 0))) (w1.set 45 (.inl (1, 1, .inr (.inl (vp_updL o 0 q)))))) := by
  refine tk_M.ofW (lv := [some (.ref 0), some (.int a0), some (.ref 45), none]) (by decide) (Nat.le_of_ble_eq_true rfl) rfl ?_
  refine tk_aload_n (pc := 0) d_L_bound_0 rfl ?_
  refine tk_iconst (pc := 1) (v := 0) d_L_bound_1 (by decide) ?_
  refine tk_aload_n (pc := 2) d_L_bound_2 rfl ?_
  refine tk_iload_n (pc := 3) d_L_bound_3 rfl ?_
  refine tk_callVr (pc := 4) d_L_bound_4 l_L_56 k_CP_bound hx rfl rfl hM hl (by omega) (Nat.le_of_ble_eq_true rfl) (Nat.le_of_ble_eq_true rfl) (Nat.le_of_ble_eq_true rfl) rfl rfl ?_
  refine tk_last (pc := 7) 0 d_L_bound_7 ho rfl (by decide) (by decide) ?_
  refine tk_goto (pc := 8) (tgt := 17) d_L_bound_8 (by decide) ?_
  refine tk_iconst (pc := 17) (v := 0) d_L_bound_17 (by decide) ?_
  exact tk_ireturn (pc := 18) d_L_bound_18 rfl rfl (Nat.le_of_ble_eq_true rfl) (Nat.le_of_ble_eq_true rfl) ⟨rfl, rfl⟩
theorem wl_bound_1 (hM : tk_M y_CP_bound w_CP_bound 10 1 6 [.ref 0, .int a0] w (tk_det (.inr eI) w1)) (hl : w1.length = w.length) (hx : w[0]? = some (.inr (0, F))) : tk_M y_L_bound w_L_bound 11 1 6 [.ref 0, .int a0, .ref 45] w (tk_det (.inl (some (.int 1))) w1) := by
  refine tk_M.ofW (lv := [some (.ref 0), some (.int a0), some (.ref 45), none]) (by decide) (Nat.le_of_ble_eq_true rfl) rfl ?_
  refine tk_aload_n (pc := 0) d_L_bound_0 rfl ?_
  refine tk_iconst (pc := 1) (v := 0) d_L_bound_1 (by decide) ?_
  refine tk_aload_n (pc := 2) d_L_bound_2 rfl ?_
  refine tk_iload_n (pc := 3) d_L_bound_3 rfl ?_
  refine tk_callVx (pc := 4) d_L_bound_4 l_L_56 k_CP_bound hx rfl rfl hM hl (by omega) (Nat.le_of_ble_eq_true rfl) (Nat.le_of_ble_eq_true rfl) (Nat.le_of_ble_eq_true rfl) rfl rfl ?_
  refine tk_X.catch (pre := []) (a0 := 0) (a1 := 8) (hp := 11) (ct := 21) (i := 3) (len := 1) rfl (fun z hz => by cases hz) (by decide) (by decide) wk_eI wc_eI (Or.inl ⟨3, d_L_bound_11, rfl, rfl⟩) rfl (by decide) ?_
  refine tk_iconst (pc := 12) (v := 1) d_L_bound_12 (by decide) ?_
  exact tk_ireturn (pc := 13) d_L_bound_13 rfl rfl (Nat.le_of_ble_eq_true rfl) (Nat.le_of_ble_eq_true rfl) ⟨rfl, rfl⟩
theorem wl_bound_2 (hM : tk_M y_CP_bound w_CP_bound 10 1 6 [.ref 0, .int a0] w (tk_det (.inr eU) w1)) (hl : w1.length = w.length) (hx : w[0]? = some (.inr (0, F))) : tk_M y_L_bound w_L_bound 11 1 6 [.ref 0, .int a0, .ref 45] w (tk_det (.inl (some (.int 2))) w1) := by
  refine tk_M.ofW (lv := [some (.ref 0), some (.int a0), some (.ref 45), none]) (by decide) (Nat.le_of_ble_eq_true rfl) rfl ?_
  refine tk_aload_n (pc := 0) d_L_bound_0 rfl ?_
  refine tk_iconst (pc := 1) (v := 0) d_L_bound_1 (by decide) ?_
  refine tk_aload_n (pc := 2) d_L_bound_2 rfl ?_
  refine tk_iload_n (pc := 3) d_L_bound_3 rfl ?_
  refine tk_callVx (pc := 4) d_L_bound_4 l_L_56 k_CP_bound hx rfl rfl hM hl (by omega) (Nat.le_of_ble_eq_true rfl) (Nat.le_of_ble_eq_true rfl) (Nat.le_of_ble_eq_true rfl) rfl rfl ?_
  refine tk_X.catch (pre := [(0, 8, 11, 21)]) (a0 := 0) (a1 := 8) (hp := 14) (ct := 31) (i := 3) (len := 1) rfl (fun z hz => by
    simp only [List.mem_cons, List.not_mem_nil, or_false] at hz
    rcases hz with rfl
    · exact Or.inr ⟨by decide, eI, wk_eI, wn_eU_eI⟩) (by decide) (by decide) wk_eU wc_eU (Or.inl ⟨3, d_L_bound_14, rfl, rfl⟩) rfl (by decide) ?_
  refine tk_iconst (pc := 15) (v := 2) d_L_bound_15 (by decide) ?_
  exact tk_ireturn (pc := 16) d_L_bound_16 rfl rfl (Nat.le_of_ble_eq_true rfl) (Nat.le_of_ble_eq_true rfl) ⟨rfl, rfl⟩
theorem wl_clash_r {q : Int32} (hM : tk_M y_CP_clash w_CP_clash 10 1 6 [.ref 0, .int a0] w (tk_det (.inl (some (.int q))) w1)) (hl : w1.length = w.length) (hx : w[0]? = some (.inr (0, F))) (ho : w1[45]? = some (.inl (1, 1, .inr (.inl o)))) : tk_M y_L_clash w_L_clash 11 1 6 [.ref 0, .int a0, .ref 45] w (tk_det (.inl (some (.int 0))) (w1.set 45 (.inl (1, 1, .inr (.inl (vp_updL o 0 q.toInt64)))))) := by
  refine tk_M.ofW (lv := [some (.ref 0), some (.int a0), some (.ref 45), none]) (by decide) (Nat.le_of_ble_eq_true rfl) rfl ?_
  refine tk_aload_n (pc := 0) d_L_clash_0 rfl ?_
  refine tk_iconst (pc := 1) (v := 0) d_L_clash_1 (by decide) ?_
  refine tk_aload_n (pc := 2) d_L_clash_2 rfl ?_
  refine tk_iload_n (pc := 3) d_L_clash_3 rfl ?_
  refine tk_callVr (pc := 4) d_L_clash_4 l_L_60 k_CP_clash hx rfl rfl hM hl (by omega) (Nat.le_of_ble_eq_true rfl) (Nat.le_of_ble_eq_true rfl) (Nat.le_of_ble_eq_true rfl) rfl rfl ?_
  refine tk_i2l (pc := 7) d_L_clash_7 ?_
  refine tk_last (pc := 8) 0 d_L_clash_8 ho rfl (by decide) (by decide) ?_
  refine tk_goto (pc := 9) (tgt := 15) d_L_clash_9 (by decide) ?_
  refine tk_iconst (pc := 15) (v := 0) d_L_clash_15 (by decide) ?_
  exact tk_ireturn (pc := 16) d_L_clash_16 rfl rfl (Nat.le_of_ble_eq_true rfl) (Nat.le_of_ble_eq_true rfl) ⟨rfl, rfl⟩
theorem wl_clash_1 (hM : tk_M y_CP_clash w_CP_clash 10 1 6 [.ref 0, .int a0] w (tk_det (.inr eI) w1)) (hl : w1.length = w.length) (hx : w[0]? = some (.inr (0, F))) : tk_M y_L_clash w_L_clash 11 1 6 [.ref 0, .int a0, .ref 45] w (tk_det (.inl (some (.int 1))) w1) := by
  refine tk_M.ofW (lv := [some (.ref 0), some (.int a0), some (.ref 45), none]) (by decide) (Nat.le_of_ble_eq_true rfl) rfl ?_
  refine tk_aload_n (pc := 0) d_L_clash_0 rfl ?_
  refine tk_iconst (pc := 1) (v := 0) d_L_clash_1 (by decide) ?_
  refine tk_aload_n (pc := 2) d_L_clash_2 rfl ?_
  refine tk_iload_n (pc := 3) d_L_clash_3 rfl ?_
  refine tk_callVx (pc := 4) d_L_clash_4 l_L_60 k_CP_clash hx rfl rfl hM hl (by omega) (Nat.le_of_ble_eq_true rfl) (Nat.le_of_ble_eq_true rfl) (Nat.le_of_ble_eq_true rfl) rfl rfl ?_
  refine tk_X.catch (pre := []) (a0 := 0) (a1 := 9) (hp := 12) (ct := 21) (i := 3) (len := 1) rfl (fun z hz => by cases hz) (by decide) (by decide) wk_eI wc_eI (Or.inl ⟨3, d_L_clash_12, rfl, rfl⟩) rfl (by decide) ?_
  refine tk_iconst (pc := 13) (v := 1) d_L_clash_13 (by decide) ?_
  exact tk_ireturn (pc := 14) d_L_clash_14 rfl rfl (Nat.le_of_ble_eq_true rfl) (Nat.le_of_ble_eq_true rfl) ⟨rfl, rfl⟩
theorem wl_take_r {q : Int32} (hM : tk_M y_CP_take w_CP_take 10 1 6 [.ref 0, .int a0] w (tk_det (.inl (some (.int q))) w1)) (hl : w1.length = w.length) (hx : w[0]? = some (.inr (0, F))) (ho : w1[45]? = some (.inl (1, 1, .inr (.inl o)))) : tk_M y_L_take w_L_take 11 1 6 [.ref 0, .int a0, .ref 45] w (tk_det (.inl (some (.int 0))) (w1.set 45 (.inl (1, 1, .inr (.inl (vp_updL o 0 q.toInt64)))))) := by
  refine tk_M.ofW (lv := [some (.ref 0), some (.int a0), some (.ref 45), none]) (by decide) (Nat.le_of_ble_eq_true rfl) rfl ?_
  refine tk_aload_n (pc := 0) d_L_take_0 rfl ?_
  refine tk_iconst (pc := 1) (v := 0) d_L_take_1 (by decide) ?_
  refine tk_aload_n (pc := 2) d_L_take_2 rfl ?_
  refine tk_iload_n (pc := 3) d_L_take_3 rfl ?_
  refine tk_callVr (pc := 4) d_L_take_4 l_L_63 k_CP_take hx rfl rfl hM hl (by omega) (Nat.le_of_ble_eq_true rfl) (Nat.le_of_ble_eq_true rfl) (Nat.le_of_ble_eq_true rfl) rfl rfl ?_
  refine tk_i2l (pc := 7) d_L_take_7 ?_
  refine tk_last (pc := 8) 0 d_L_take_8 ho rfl (by decide) (by decide) ?_
  refine tk_goto (pc := 9) (tgt := 21) d_L_take_9 (by decide) ?_
  refine tk_iconst (pc := 21) (v := 0) d_L_take_21 (by decide) ?_
  exact tk_ireturn (pc := 22) d_L_take_22 rfl rfl (Nat.le_of_ble_eq_true rfl) (Nat.le_of_ble_eq_true rfl) ⟨rfl, rfl⟩
theorem wl_take_1 (hM : tk_M y_CP_take w_CP_take 10 1 6 [.ref 0, .int a0] w (tk_det (.inr eI) w1)) (hl : w1.length = w.length) (hx : w[0]? = some (.inr (0, F))) : tk_M y_L_take w_L_take 11 1 6 [.ref 0, .int a0, .ref 45] w (tk_det (.inl (some (.int 1))) w1) := by
  refine tk_M.ofW (lv := [some (.ref 0), some (.int a0), some (.ref 45), none]) (by decide) (Nat.le_of_ble_eq_true rfl) rfl ?_
  refine tk_aload_n (pc := 0) d_L_take_0 rfl ?_
  refine tk_iconst (pc := 1) (v := 0) d_L_take_1 (by decide) ?_
  refine tk_aload_n (pc := 2) d_L_take_2 rfl ?_
  refine tk_iload_n (pc := 3) d_L_take_3 rfl ?_
  refine tk_callVx (pc := 4) d_L_take_4 l_L_63 k_CP_take hx rfl rfl hM hl (by omega) (Nat.le_of_ble_eq_true rfl) (Nat.le_of_ble_eq_true rfl) (Nat.le_of_ble_eq_true rfl) rfl rfl ?_
  refine tk_X.catch (pre := []) (a0 := 0) (a1 := 9) (hp := 12) (ct := 21) (i := 3) (len := 1) rfl (fun z hz => by cases hz) (by decide) (by decide) wk_eI wc_eI (Or.inl ⟨3, d_L_take_12, rfl, rfl⟩) rfl (by decide) ?_
  refine tk_iconst (pc := 13) (v := 1) d_L_take_13 (by decide) ?_
  exact tk_ireturn (pc := 14) d_L_take_14 rfl rfl (Nat.le_of_ble_eq_true rfl) (Nat.le_of_ble_eq_true rfl) ⟨rfl, rfl⟩
theorem wl_take_2 (hM : tk_M y_CP_take w_CP_take 10 1 6 [.ref 0, .int a0] w (tk_det (.inr eS) w1)) (hl : w1.length = w.length) (hx : w[0]? = some (.inr (0, F))) : tk_M y_L_take w_L_take 11 1 6 [.ref 0, .int a0, .ref 45] w (tk_det (.inl (some (.int 2))) w1) := by
  refine tk_M.ofW (lv := [some (.ref 0), some (.int a0), some (.ref 45), none]) (by decide) (Nat.le_of_ble_eq_true rfl) rfl ?_
  refine tk_aload_n (pc := 0) d_L_take_0 rfl ?_
  refine tk_iconst (pc := 1) (v := 0) d_L_take_1 (by decide) ?_
  refine tk_aload_n (pc := 2) d_L_take_2 rfl ?_
  refine tk_iload_n (pc := 3) d_L_take_3 rfl ?_
  refine tk_callVx (pc := 4) d_L_take_4 l_L_63 k_CP_take hx rfl rfl hM hl (by omega) (Nat.le_of_ble_eq_true rfl) (Nat.le_of_ble_eq_true rfl) (Nat.le_of_ble_eq_true rfl) rfl rfl ?_
  refine tk_X.catch (pre := [(0, 9, 12, 21)]) (a0 := 0) (a1 := 9) (hp := 15) (ct := 13) (i := 3) (len := 1) rfl (fun z hz => by
    simp only [List.mem_cons, List.not_mem_nil, or_false] at hz
    rcases hz with rfl
    · exact Or.inr ⟨by decide, eI, wk_eI, wn_eS_eI⟩) (by decide) (by decide) wk_eS wc_eS (Or.inl ⟨3, d_L_take_15, rfl, rfl⟩) rfl (by decide) ?_
  refine tk_iconst (pc := 16) (v := 2) d_L_take_16 (by decide) ?_
  exact tk_ireturn (pc := 17) d_L_take_17 rfl rfl (Nat.le_of_ble_eq_true rfl) (Nat.le_of_ble_eq_true rfl) ⟨rfl, rfl⟩
theorem wl_take_3 (hM : tk_M y_CP_take w_CP_take 10 1 6 [.ref 0, .int a0] w (tk_det (.inr eU) w1)) (hl : w1.length = w.length) (hx : w[0]? = some (.inr (0, F))) : tk_M y_L_take w_L_take 11 1 6 [.ref 0, .int a0, .ref 45] w (tk_det (.inl (some (.int 3))) w1) := by
  refine tk_M.ofW (lv := [some (.ref 0), some (.int a0), some (.ref 45), none]) (by decide) (Nat.le_of_ble_eq_true rfl) rfl ?_
  refine tk_aload_n (pc := 0) d_L_take_0 rfl ?_
  refine tk_iconst (pc := 1) (v := 0) d_L_take_1 (by decide) ?_
  refine tk_aload_n (pc := 2) d_L_take_2 rfl ?_
  refine tk_iload_n (pc := 3) d_L_take_3 rfl ?_
  refine tk_callVx (pc := 4) d_L_take_4 l_L_63 k_CP_take hx rfl rfl hM hl (by omega) (Nat.le_of_ble_eq_true rfl) (Nat.le_of_ble_eq_true rfl) (Nat.le_of_ble_eq_true rfl) rfl rfl ?_
  refine tk_X.catch (pre := [(0, 9, 12, 21), (0, 9, 15, 13)]) (a0 := 0) (a1 := 9) (hp := 18) (ct := 31) (i := 3) (len := 1) rfl (fun z hz => by
    simp only [List.mem_cons, List.not_mem_nil, or_false] at hz
    rcases hz with rfl | rfl
    · exact Or.inr ⟨by decide, eI, wk_eI, wn_eU_eI⟩
    · exact Or.inr ⟨by decide, eS, wk_eS, wn_eU_eS⟩) (by decide) (by decide) wk_eU wc_eU (Or.inl ⟨3, d_L_take_18, rfl, rfl⟩) rfl (by decide) ?_
  refine tk_iconst (pc := 19) (v := 3) d_L_take_19 (by decide) ?_
  exact tk_ireturn (pc := 20) d_L_take_20 rfl rfl (Nat.le_of_ble_eq_true rfl) (Nat.le_of_ble_eq_true rfl) ⟨rfl, rfl⟩
theorem wl_stock_r {q : Int32} (hM : tk_M y_CP_stock w_CP_stock 10 1 6 [.ref 0, .int a0] w (tk_det (.inl (some (.int q))) w1)) (hl : w1.length = w.length) (hx : w[0]? = some (.inr (0, F))) (ho : w1[45]? = some (.inl (1, 1, .inr (.inl o)))) : tk_M y_L_stock w_L_stock 11 1 6 [.ref 0, .int a0, .ref 45] w (tk_det (.inl (some (.int 0))) (w1.set 45 (.inl (1, 1, .inr (.inl (vp_updL o 0 q.toInt64)))))) := by
  refine tk_M.ofW (lv := [some (.ref 0), some (.int a0), some (.ref 45), none]) (by decide) (Nat.le_of_ble_eq_true rfl) rfl ?_
  refine tk_aload_n (pc := 0) d_L_stock_0 rfl ?_
  refine tk_iconst (pc := 1) (v := 0) d_L_stock_1 (by decide) ?_
  refine tk_aload_n (pc := 2) d_L_stock_2 rfl ?_
  refine tk_iload_n (pc := 3) d_L_stock_3 rfl ?_
  refine tk_callVr (pc := 4) d_L_stock_4 l_L_66 k_CP_stock hx rfl rfl hM hl (by omega) (Nat.le_of_ble_eq_true rfl) (Nat.le_of_ble_eq_true rfl) (Nat.le_of_ble_eq_true rfl) rfl rfl ?_
  refine tk_i2l (pc := 7) d_L_stock_7 ?_
  refine tk_last (pc := 8) 0 d_L_stock_8 ho rfl (by decide) (by decide) ?_
  refine tk_goto (pc := 9) (tgt := 15) d_L_stock_9 (by decide) ?_
  refine tk_iconst (pc := 15) (v := 0) d_L_stock_15 (by decide) ?_
  exact tk_ireturn (pc := 16) d_L_stock_16 rfl rfl (Nat.le_of_ble_eq_true rfl) (Nat.le_of_ble_eq_true rfl) ⟨rfl, rfl⟩
theorem wl_stock_1 (hM : tk_M y_CP_stock w_CP_stock 10 1 6 [.ref 0, .int a0] w (tk_det (.inr eI) w1)) (hl : w1.length = w.length) (hx : w[0]? = some (.inr (0, F))) : tk_M y_L_stock w_L_stock 11 1 6 [.ref 0, .int a0, .ref 45] w (tk_det (.inl (some (.int 1))) w1) := by
  refine tk_M.ofW (lv := [some (.ref 0), some (.int a0), some (.ref 45), none]) (by decide) (Nat.le_of_ble_eq_true rfl) rfl ?_
  refine tk_aload_n (pc := 0) d_L_stock_0 rfl ?_
  refine tk_iconst (pc := 1) (v := 0) d_L_stock_1 (by decide) ?_
  refine tk_aload_n (pc := 2) d_L_stock_2 rfl ?_
  refine tk_iload_n (pc := 3) d_L_stock_3 rfl ?_
  refine tk_callVx (pc := 4) d_L_stock_4 l_L_66 k_CP_stock hx rfl rfl hM hl (by omega) (Nat.le_of_ble_eq_true rfl) (Nat.le_of_ble_eq_true rfl) (Nat.le_of_ble_eq_true rfl) rfl rfl ?_
  refine tk_X.catch (pre := []) (a0 := 0) (a1 := 9) (hp := 12) (ct := 21) (i := 3) (len := 1) rfl (fun z hz => by cases hz) (by decide) (by decide) wk_eI wc_eI (Or.inl ⟨3, d_L_stock_12, rfl, rfl⟩) rfl (by decide) ?_
  refine tk_iconst (pc := 13) (v := 1) d_L_stock_13 (by decide) ?_
  exact tk_ireturn (pc := 14) d_L_stock_14 rfl rfl (Nat.le_of_ble_eq_true rfl) (Nat.le_of_ble_eq_true rfl) ⟨rfl, rfl⟩
end WRAP
section WRAPM
variable {w : tk_W} {F : List Value} {a0 a1 a2 a3 : Int32} {g : sG} {h : sH} {p : sP} {c : sC} {th gn : Int32} {mk mc ms ml ma mb : Ar} {hn : Int32} {le gr mo hl hu pc pl : Ar} {aq sp st : Int32} {nw br : Ar} {o : Nat → Int64}
theorem wl_good_s {q : Int32} (hM : tk_M y_CP_good w_CP_good 10 1 6 [.ref 0, .int a0, .int a1, .int a2] w (tk_det (.inl (some (.int q))) (wd g h p c (md th gn mk mc ms ml ma mb hn le gr mo hl hu pc pl aq sp st nw br o)))) (hlen : w.length = 46) (hx : w[0]? = some (.inr (0, F))) : tk_M y_L_good w_L_good 11 1 6 [.ref 0, .int a0, .int a1, .int a2, .ref 45] w (tk_det (.inl (some (.int 0))) (wd g h p c (md th gn mk mc ms ml ma mb hn le gr mo hl hu pc pl aq sp st nw br (vp_updL o 0 (q.toInt64))))) := wl_good_r hM (by rw [hlen]; rfl) hx rfl
theorem wl_arrive_s {q : Int32} (hM : tk_M y_CP_arrive w_CP_arrive 10 1 6 [.ref 0, .int a0, .int a1] w (tk_det (.inl (some (.int q))) (wd g h p c (md th gn mk mc ms ml ma mb hn le gr mo hl hu pc pl aq sp st nw br o)))) (hlen : w.length = 46) (hx : w[0]? = some (.inr (0, F))) : tk_M y_L_arrive w_L_arrive 11 1 6 [.ref 0, .int a0, .int a1, .ref 45] w (tk_det (.inl (some (.int 0))) (wd g h p c (md th gn mk mc ms ml ma mb hn le gr mo hl hu pc pl aq sp st nw br (vp_updL o 0 (q.toInt64))))) := wl_arrive_r hM (by rw [hlen]; rfl) hx rfl
theorem wl_heat_s {q : Int32} (hM : tk_M y_CP_heat w_CP_heat 10 1 6 [.ref 0, .int a0, .int a1] w (tk_det (.inl (some (.int q))) (wd g h p c (md th gn mk mc ms ml ma mb hn le gr mo hl hu pc pl aq sp st nw br o)))) (hlen : w.length = 46) (hx : w[0]? = some (.inr (0, F))) : tk_M y_L_heat w_L_heat 11 1 6 [.ref 0, .int a0, .int a1, .ref 45] w (tk_det (.inl (some (.int 0))) (wd g h p c (md th gn mk mc ms ml ma mb hn le gr mo hl hu pc pl aq sp st nw br (vp_updL o 0 (q.toInt64))))) := wl_heat_r hM (by rw [hlen]; rfl) hx rfl
theorem wl_plan_s {q : Int32} (hM : tk_M y_CP_plan w_CP_plan 10 1 6 [.ref 0, .int a0, .int a1] w (tk_det (.inl (some (.int q))) (wd g h p c (md th gn mk mc ms ml ma mb hn le gr mo hl hu pc pl aq sp st nw br o)))) (hlen : w.length = 46) (hx : w[0]? = some (.inr (0, F))) : tk_M y_L_plan w_L_plan 11 1 6 [.ref 0, .int a0, .int a1, .ref 45] w (tk_det (.inl (some (.int 0))) (wd g h p c (md th gn mk mc ms ml ma mb hn le gr mo hl hu pc pl aq sp st nw br (vp_updL o 0 (q.toInt64))))) := wl_plan_r hM (by rw [hlen]; rfl) hx rfl
theorem wl_planned_s {q : Int32} (hM : tk_M y_CP_planned w_CP_planned 10 1 6 [.ref 0, .int a0] w (tk_det (.inl (some (.int q))) (wd g h p c (md th gn mk mc ms ml ma mb hn le gr mo hl hu pc pl aq sp st nw br o)))) (hlen : w.length = 46) (hx : w[0]? = some (.inr (0, F))) : tk_M y_L_planned w_L_planned 11 1 6 [.ref 0, .int a0, .ref 45] w (tk_det (.inl (some (.int 0))) (wd g h p c (md th gn mk mc ms ml ma mb hn le gr mo hl hu pc pl aq sp st nw br (vp_updL o 0 (q.toInt64))))) := wl_planned_r hM (by rw [hlen]; rfl) hx rfl
theorem wl_amount_s {q : Int32} (hM : tk_M y_CP_amount w_CP_amount 10 1 6 [.ref 0, .int a0, .int a1] w (tk_det (.inl (some (.int q))) (wd g h p c (md th gn mk mc ms ml ma mb hn le gr mo hl hu pc pl aq sp st nw br o)))) (hlen : w.length = 46) (hx : w[0]? = some (.inr (0, F))) : tk_M y_L_amount w_L_amount 11 1 6 [.ref 0, .int a0, .int a1, .ref 45] w (tk_det (.inl (some (.int 0))) (wd g h p c (md th gn mk mc ms ml ma mb hn le gr mo hl hu pc pl aq sp st nw br (vp_updL o 0 (q.toInt64))))) := wl_amount_r hM (by rw [hlen]; rfl) hx rfl
theorem wl_worst_s {q : Int64} (hM : tk_M y_CP_worst w_CP_worst 10 1 6 [.ref 0, .int a0, .int a1, .int a2, .int a3] w (tk_det (.inl (some (.long q))) (wd g h p c (md th gn mk mc ms ml ma mb hn le gr mo hl hu pc pl aq sp st nw br o)))) (hlen : w.length = 46) (hx : w[0]? = some (.inr (0, F))) : tk_M y_L_worst w_L_worst 11 1 6 [.ref 0, .int a0, .int a1, .int a2, .int a3, .ref 45] w (tk_det (.inl (some (.int 0))) (wd g h p c (md th gn mk mc ms ml ma mb hn le gr mo hl hu pc pl aq sp st nw br (vp_updL o 0 (q))))) := wl_worst_r hM (by rw [hlen]; rfl) hx rfl
theorem wl_bound_s {q : Int64} (hM : tk_M y_CP_bound w_CP_bound 10 1 6 [.ref 0, .int a0] w (tk_det (.inl (some (.long q))) (wd g h p c (md th gn mk mc ms ml ma mb hn le gr mo hl hu pc pl aq sp st nw br o)))) (hlen : w.length = 46) (hx : w[0]? = some (.inr (0, F))) : tk_M y_L_bound w_L_bound 11 1 6 [.ref 0, .int a0, .ref 45] w (tk_det (.inl (some (.int 0))) (wd g h p c (md th gn mk mc ms ml ma mb hn le gr mo hl hu pc pl aq sp st nw br (vp_updL o 0 (q))))) := wl_bound_r hM (by rw [hlen]; rfl) hx rfl
theorem wl_clash_s {q : Int32} (hM : tk_M y_CP_clash w_CP_clash 10 1 6 [.ref 0, .int a0] w (tk_det (.inl (some (.int q))) (wd g h p c (md th gn mk mc ms ml ma mb hn le gr mo hl hu pc pl aq sp st nw br o)))) (hlen : w.length = 46) (hx : w[0]? = some (.inr (0, F))) : tk_M y_L_clash w_L_clash 11 1 6 [.ref 0, .int a0, .ref 45] w (tk_det (.inl (some (.int 0))) (wd g h p c (md th gn mk mc ms ml ma mb hn le gr mo hl hu pc pl aq sp st nw br (vp_updL o 0 (q.toInt64))))) := wl_clash_r hM (by rw [hlen]; rfl) hx rfl
theorem wl_take_s {q : Int32} (hM : tk_M y_CP_take w_CP_take 10 1 6 [.ref 0, .int a0] w (tk_det (.inl (some (.int q))) (wd g h p c (md th gn mk mc ms ml ma mb hn le gr mo hl hu pc pl aq sp st nw br o)))) (hlen : w.length = 46) (hx : w[0]? = some (.inr (0, F))) : tk_M y_L_take w_L_take 11 1 6 [.ref 0, .int a0, .ref 45] w (tk_det (.inl (some (.int 0))) (wd g h p c (md th gn mk mc ms ml ma mb hn le gr mo hl hu pc pl aq sp st nw br (vp_updL o 0 (q.toInt64))))) := wl_take_r hM (by rw [hlen]; rfl) hx rfl
theorem wl_stock_s {q : Int32} (hM : tk_M y_CP_stock w_CP_stock 10 1 6 [.ref 0, .int a0] w (tk_det (.inl (some (.int q))) (wd g h p c (md th gn mk mc ms ml ma mb hn le gr mo hl hu pc pl aq sp st nw br o)))) (hlen : w.length = 46) (hx : w[0]? = some (.inr (0, F))) : tk_M y_L_stock w_L_stock 11 1 6 [.ref 0, .int a0, .ref 45] w (tk_det (.inl (some (.int 0))) (wd g h p c (md th gn mk mc ms ml ma mb hn le gr mo hl hu pc pl aq sp st nw br (vp_updL o 0 (q.toInt64))))) := wl_stock_r hM (by rw [hlen]; rfl) hx rfl
end WRAPM
