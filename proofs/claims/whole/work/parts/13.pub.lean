/-! ===== the public methods: goods and heats ===== -/
section PUB1
variable {h : sH} {p : sP} {c : sC} {t : tk_W} {gk gc gs gl ga gb : Ar} {n : Nat}
theorem m_good_full {k ct s : Int32} : tk_M y_CP_good w_CP_good 10 1 6 [.ref 0, .int k, .int ct, .int s] (wd (nI 5, gk, gc, gs, gl, ga, gb) h p c t) (tk_det (.inr eS) (wd (nI 5, gk, gc, gs, gl, ga, gb) h p c t)) := by
  refine tk_M.of (lv := [some (.ref 0), some (.int k), some (.int ct), some (.int s)]) (by decide) (Nat.le_of_ble_eq_true rfl) rfl ?_
  refine tk_aload_n (pc := 0) d_CP_good_0 rfl ?_
  refine tk_get (pc := 1) d_CP_good_1 f_CP_10 rfl rfl ?_
  refine tk_get (pc := 4) d_CP_good_4 f_CP_37 rfl rfl ?_
  refine tk_iconst (pc := 7) (v := 5) d_CP_good_7 (by decide) ?_
  refine tk_icmp_ge (pc := 8) (tgt := 15) d_CP_good_8 (by decide) (fun hb => ?_) (fun hb => ?_)
  · refine tk_iconst (pc := 15) (v := 0) d_CP_good_15 (by decide) ?_
    refine tk_callSx (pc := 16) d_CP_good_16 l_CP_41 k_CP_requireTurn (c_rt_no) rfl (by omega) (Nat.le_of_ble_eq_true rfl) (Nat.le_of_ble_eq_true rfl) (Nat.le_of_ble_eq_true rfl) rfl rfl (by simp) ?_
    exact ⟨rfl, rfl⟩
  · exact absurd (show (5 : Int32) ≤ nI 5 from by decide) hb
theorem m_good_bad {k ct s : Int32} (hn : n < 5) (hbad : (k < 1 ∨ 1000 < k) ∨ (ct < 0 ∨ 100000 < ct) ∨ (s < 0 ∨ 6 < s)) : tk_M y_CP_good w_CP_good 10 1 6 [.ref 0, .int k, .int ct, .int s] (wd (nI n, gk, gc, gs, gl, ga, gb) h p c t) (tk_det (.inr eA) (wd (nI n, gk, gc, gs, gl, ga, gb) h p c t)) := by
  refine tk_M.of (lv := [some (.ref 0), some (.int k), some (.int ct), some (.int s)]) (by decide) (Nat.le_of_ble_eq_true rfl) rfl ?_
  refine tk_aload_n (pc := 0) d_CP_good_0 rfl ?_
  refine tk_get (pc := 1) d_CP_good_1 f_CP_10 rfl rfl ?_
  refine tk_get (pc := 4) d_CP_good_4 f_CP_37 rfl rfl ?_
  refine tk_iconst (pc := 7) (v := 5) d_CP_good_7 (by decide) ?_
  refine tk_icmp_ge (pc := 8) (tgt := 15) d_CP_good_8 (by decide) (fun hb => ?_) (fun hb => ?_)
  · exact absurd hb (nI_ge hn (by decide))
  refine tk_iconst (pc := 11) (v := 1) d_CP_good_11 (by decide) ?_
  refine tk_goto (pc := 12) (tgt := 16) d_CP_good_12 (by decide) ?_
  refine tk_callSr (pc := 16) d_CP_good_16 l_CP_41 k_CP_requireTurn (c_rt_ok (b := 1) (by decide)) rfl (by omega) (Nat.le_of_ble_eq_true rfl) (Nat.le_of_ble_eq_true rfl) (Nat.le_of_ble_eq_true rfl) rfl rfl ?_
  refine tk_iload_n (pc := 19) d_CP_good_19 rfl ?_
  refine tk_iconst (pc := 20) (v := 1) d_CP_good_20 (by decide) ?_
  refine tk_sipush (pc := 21) (v := 1000) d_CP_good_21 (by decide) ?_
  by_cases h1 : k < 1 ∨ 1000 < k
  · refine tk_callSx (pc := 24) d_CP_good_24 l_CP_45 k_CP_requireRange (c_rr_no h1) rfl (by omega) (Nat.le_of_ble_eq_true rfl) (Nat.le_of_ble_eq_true rfl) (Nat.le_of_ble_eq_true rfl) rfl rfl (by simp) ?_
    exact ⟨rfl, rfl⟩
  refine tk_callSr (pc := 24) d_CP_good_24 l_CP_45 k_CP_requireRange (c_rr_ok (fun z => h1 (Or.inl z)) (fun z => h1 (Or.inr z))) rfl (by omega) (Nat.le_of_ble_eq_true rfl) (Nat.le_of_ble_eq_true rfl) (Nat.le_of_ble_eq_true rfl) rfl rfl ?_
  refine tk_iload_n (pc := 27) d_CP_good_27 rfl ?_
  refine tk_iconst (pc := 28) (v := 0) d_CP_good_28 (by decide) ?_
  refine tk_ldc (pc := 29) d_CP_good_29 q_CP_49 ?_
  by_cases h2 : ct < 0 ∨ 100000 < ct
  · refine tk_callSx (pc := 31) d_CP_good_31 l_CP_45 k_CP_requireRange (c_rr_no h2) rfl (by omega) (Nat.le_of_ble_eq_true rfl) (Nat.le_of_ble_eq_true rfl) (Nat.le_of_ble_eq_true rfl) rfl rfl (by simp) ?_
    exact ⟨rfl, rfl⟩
  refine tk_callSr (pc := 31) d_CP_good_31 l_CP_45 k_CP_requireRange (c_rr_ok (fun z => h2 (Or.inl z)) (fun z => h2 (Or.inr z))) rfl (by omega) (Nat.le_of_ble_eq_true rfl) (Nat.le_of_ble_eq_true rfl) (Nat.le_of_ble_eq_true rfl) rfl rfl ?_
  refine tk_iload_n (pc := 34) d_CP_good_34 rfl ?_
  refine tk_iconst (pc := 35) (v := 0) d_CP_good_35 (by decide) ?_
  refine tk_bipush (pc := 36) (v := 6) d_CP_good_36 (by decide) ?_
  refine tk_callSx (pc := 38) d_CP_good_38 l_CP_45 k_CP_requireRange (c_rr_no ((hbad.resolve_left h1).resolve_left h2)) rfl (by omega) (Nat.le_of_ble_eq_true rfl) (Nat.le_of_ble_eq_true rfl) (Nat.le_of_ble_eq_true rfl) rfl rfl (by simp) ?_
  exact ⟨rfl, rfl⟩
theorem m_good_ok {k ct s : Int32} (hn : n < 5) (h1 : ¬ (k < 1 ∨ 1000 < k)) (h2 : ¬ (ct < 0 ∨ 100000 < ct)) (h3 : ¬ (s < 0 ∨ 6 < s)) : tk_M y_CP_good w_CP_good 10 1 6 [.ref 0, .int k, .int ct, .int s] (wd (nI n, gk, gc, gs, gl, ga, gb) h p c t) (tk_det (.inl (some (.int (nI n)))) (wd (nI (n + 1), upd gk n k, upd gc n ct, upd gs n s, upd gl n 6, ga, gb) h p c t)) := by
  refine tk_M.of (lv := [some (.ref 0), some (.int k), some (.int ct), some (.int s)]) (by decide) (Nat.le_of_ble_eq_true rfl) rfl ?_
  refine tk_aload_n (pc := 0) d_CP_good_0 rfl ?_
  refine tk_get (pc := 1) d_CP_good_1 f_CP_10 rfl rfl ?_
  refine tk_get (pc := 4) d_CP_good_4 f_CP_37 rfl rfl ?_
  refine tk_iconst (pc := 7) (v := 5) d_CP_good_7 (by decide) ?_
  refine tk_icmp_ge (pc := 8) (tgt := 15) d_CP_good_8 (by decide) (fun hb => ?_) (fun hb => ?_)
  · exact absurd hb (nI_ge hn (by decide))
  refine tk_iconst (pc := 11) (v := 1) d_CP_good_11 (by decide) ?_
  refine tk_goto (pc := 12) (tgt := 16) d_CP_good_12 (by decide) ?_
  refine tk_callSr (pc := 16) d_CP_good_16 l_CP_41 k_CP_requireTurn (c_rt_ok (b := 1) (by decide)) rfl (by omega) (Nat.le_of_ble_eq_true rfl) (Nat.le_of_ble_eq_true rfl) (Nat.le_of_ble_eq_true rfl) rfl rfl ?_
  refine tk_iload_n (pc := 19) d_CP_good_19 rfl ?_
  refine tk_iconst (pc := 20) (v := 1) d_CP_good_20 (by decide) ?_
  refine tk_sipush (pc := 21) (v := 1000) d_CP_good_21 (by decide) ?_
  refine tk_callSr (pc := 24) d_CP_good_24 l_CP_45 k_CP_requireRange (c_rr_ok (fun z => h1 (Or.inl z)) (fun z => h1 (Or.inr z))) rfl (by omega) (Nat.le_of_ble_eq_true rfl) (Nat.le_of_ble_eq_true rfl) (Nat.le_of_ble_eq_true rfl) rfl rfl ?_
  refine tk_iload_n (pc := 27) d_CP_good_27 rfl ?_
  refine tk_iconst (pc := 28) (v := 0) d_CP_good_28 (by decide) ?_
  refine tk_ldc (pc := 29) d_CP_good_29 q_CP_49 ?_
  refine tk_callSr (pc := 31) d_CP_good_31 l_CP_45 k_CP_requireRange (c_rr_ok (fun z => h2 (Or.inl z)) (fun z => h2 (Or.inr z))) rfl (by omega) (Nat.le_of_ble_eq_true rfl) (Nat.le_of_ble_eq_true rfl) (Nat.le_of_ble_eq_true rfl) rfl rfl ?_
  refine tk_iload_n (pc := 34) d_CP_good_34 rfl ?_
  refine tk_iconst (pc := 35) (v := 0) d_CP_good_35 (by decide) ?_
  refine tk_bipush (pc := 36) (v := 6) d_CP_good_36 (by decide) ?_
  refine tk_callSr (pc := 38) d_CP_good_38 l_CP_45 k_CP_requireRange (c_rr_ok (fun z => h3 (Or.inl z)) (fun z => h3 (Or.inr z))) rfl (by omega) (Nat.le_of_ble_eq_true rfl) (Nat.le_of_ble_eq_true rfl) (Nat.le_of_ble_eq_true rfl) rfl rfl ?_
  refine tk_aload_n (pc := 41) d_CP_good_41 rfl ?_
  refine tk_get (pc := 42) d_CP_good_42 f_CP_10 rfl rfl ?_
  refine tk_iload_n (pc := 45) d_CP_good_45 rfl ?_
  refine tk_iload_n (pc := 46) d_CP_good_46 rfl ?_
  refine tk_iload_n (pc := 47) d_CP_good_47 rfl ?_
  refine tk_callVr (pc := 48) d_CP_good_48 l_CP_50 k_G_append rfl rfl rfl (m_G_append (k := k) (ct := ct) (s := s) hn) rfl (by omega) (Nat.le_of_ble_eq_true rfl) (Nat.le_of_ble_eq_true rfl) (Nat.le_of_ble_eq_true rfl) rfl rfl ?_
  exact tk_ireturn (pc := 51) d_CP_good_51 rfl rfl (Nat.le_of_ble_eq_true rfl) (Nat.le_of_ble_eq_true rfl) ⟨rfl, rfl⟩
theorem m_element_no {i e a b : Int32} (hi : (i < 0 ∨ ¬ i < nI n) ∨ (e < 0 ∨ ¬ e < 4)) : tk_M y_CP_element w_CP_element 10 1 6 [.ref 0, .int i, .int e, .int a, .int b] (wd (nI n, gk, gc, gs, gl, ga, gb) h p c t) (tk_det (.inr eI) (wd (nI n, gk, gc, gs, gl, ga, gb) h p c t)) := by
  refine tk_M.of (lv := [some (.ref 0), some (.int i), some (.int e), some (.int a), some (.int b)]) (by decide) (Nat.le_of_ble_eq_true rfl) rfl ?_
  refine tk_iload_n (pc := 0) d_CP_element_0 rfl ?_
  refine tk_aload_n (pc := 1) d_CP_element_1 rfl ?_
  refine tk_get (pc := 2) d_CP_element_2 f_CP_10 rfl rfl ?_
  refine tk_get (pc := 5) d_CP_element_5 f_CP_37 rfl rfl ?_
  by_cases h1 : i < 0 ∨ ¬ i < nI n
  · refine tk_callSx (pc := 8) d_CP_element_8 l_CP_54 k_CP_requireIndex (c_ri_no h1) rfl (by omega) (Nat.le_of_ble_eq_true rfl) (Nat.le_of_ble_eq_true rfl) (Nat.le_of_ble_eq_true rfl) rfl rfl (by simp) ?_
    exact ⟨rfl, rfl⟩
  refine tk_callSr (pc := 8) d_CP_element_8 l_CP_54 k_CP_requireIndex (c_ri_ok (fun z => h1 (Or.inl z)) (Classical.not_not.mp (fun z => h1 (Or.inr z)))) rfl (by omega) (Nat.le_of_ble_eq_true rfl) (Nat.le_of_ble_eq_true rfl) (Nat.le_of_ble_eq_true rfl) rfl rfl ?_
  refine tk_iload_n (pc := 11) d_CP_element_11 rfl ?_
  refine tk_iconst (pc := 12) (v := 4) d_CP_element_12 (by decide) ?_
  refine tk_callSx (pc := 13) d_CP_element_13 l_CP_54 k_CP_requireIndex (c_ri_no (hi.resolve_left h1)) rfl (by omega) (Nat.le_of_ble_eq_true rfl) (Nat.le_of_ble_eq_true rfl) (Nat.le_of_ble_eq_true rfl) rfl rfl (by simp) ?_
  exact ⟨rfl, rfl⟩
theorem m_element_bad {i e : Nat} {a b : Int32} (hi : i < n) (hn : n < 6) (he : e < 4) (hb : (a < 0 ∨ 10000 < a) ∨ (b < a ∨ 10000 < b)) : tk_M y_CP_element w_CP_element 10 1 6 [.ref 0, .int (nI i), .int (nI e), .int a, .int b] (wd (nI n, gk, gc, gs, gl, ga, gb) h p c t) (tk_det (.inr eA) (wd (nI n, gk, gc, gs, gl, ga, gb) h p c t)) := by
  refine tk_M.of (lv := [some (.ref 0), some (.int (nI i)), some (.int (nI e)), some (.int a), some (.int b)]) (by decide) (Nat.le_of_ble_eq_true rfl) rfl ?_
  refine tk_iload_n (pc := 0) d_CP_element_0 rfl ?_
  refine tk_aload_n (pc := 1) d_CP_element_1 rfl ?_
  refine tk_get (pc := 2) d_CP_element_2 f_CP_10 rfl rfl ?_
  refine tk_get (pc := 5) d_CP_element_5 f_CP_37 rfl rfl ?_
  refine tk_callSr (pc := 8) d_CP_element_8 l_CP_54 k_CP_requireIndex (c_ri_ok (nI_pos (by omega)) (nI_lt hi (by omega))) rfl (by omega) (Nat.le_of_ble_eq_true rfl) (Nat.le_of_ble_eq_true rfl) (Nat.le_of_ble_eq_true rfl) rfl rfl ?_
  refine tk_iload_n (pc := 11) d_CP_element_11 rfl ?_
  refine tk_iconst (pc := 12) (v := 4) d_CP_element_12 (by decide) ?_
  refine tk_callSr (pc := 13) d_CP_element_13 l_CP_54 k_CP_requireIndex (c_ri_ok (nI_pos (by omega)) (nI_lt (b := 4) he (by omega))) rfl (by omega) (Nat.le_of_ble_eq_true rfl) (Nat.le_of_ble_eq_true rfl) (Nat.le_of_ble_eq_true rfl) rfl rfl ?_
  refine tk_iload_n (pc := 16) d_CP_element_16 rfl ?_
  refine tk_iload (pc := 17) d_CP_element_17 rfl ?_
  refine tk_iconst (pc := 19) (v := 0) d_CP_element_19 (by decide) ?_
  refine tk_sipush (pc := 20) (v := 10000) d_CP_element_20 (by decide) ?_
  refine tk_callSx (pc := 23) d_CP_element_23 l_CP_58 k_CP_requireSpan (c_rs_no hb) rfl (by omega) (Nat.le_of_ble_eq_true rfl) (Nat.le_of_ble_eq_true rfl) (Nat.le_of_ble_eq_true rfl) rfl rfl (by simp) ?_
  exact ⟨rfl, rfl⟩
theorem m_element_ok {i e : Nat} {a b : Int32} (hi : i < n) (hn : n < 6) (he : e < 4) (h1 : ¬ a < 0) (h2 : ¬ 10000 < a) (h3 : ¬ b < a) (h4 : ¬ 10000 < b) : tk_M y_CP_element w_CP_element 10 1 6 [.ref 0, .int (nI i), .int (nI e), .int a, .int b] (wd (nI n, gk, gc, gs, gl, ga, gb) h p c t) (tk_det (.inl none) (wd (nI n, gk, gc, gs, gl, upd ga (i * 4 + e) a, upd gb (i * 4 + e) b) h p c t)) := by
  refine tk_M.of (lv := [some (.ref 0), some (.int (nI i)), some (.int (nI e)), some (.int a), some (.int b)]) (by decide) (Nat.le_of_ble_eq_true rfl) rfl ?_
  refine tk_iload_n (pc := 0) d_CP_element_0 rfl ?_
  refine tk_aload_n (pc := 1) d_CP_element_1 rfl ?_
  refine tk_get (pc := 2) d_CP_element_2 f_CP_10 rfl rfl ?_
  refine tk_get (pc := 5) d_CP_element_5 f_CP_37 rfl rfl ?_
  refine tk_callSr (pc := 8) d_CP_element_8 l_CP_54 k_CP_requireIndex (c_ri_ok (nI_pos (by omega)) (nI_lt hi (by omega))) rfl (by omega) (Nat.le_of_ble_eq_true rfl) (Nat.le_of_ble_eq_true rfl) (Nat.le_of_ble_eq_true rfl) rfl rfl ?_
  refine tk_iload_n (pc := 11) d_CP_element_11 rfl ?_
  refine tk_iconst (pc := 12) (v := 4) d_CP_element_12 (by decide) ?_
  refine tk_callSr (pc := 13) d_CP_element_13 l_CP_54 k_CP_requireIndex (c_ri_ok (nI_pos (by omega)) (nI_lt (b := 4) he (by omega))) rfl (by omega) (Nat.le_of_ble_eq_true rfl) (Nat.le_of_ble_eq_true rfl) (Nat.le_of_ble_eq_true rfl) rfl rfl ?_
  refine tk_iload_n (pc := 16) d_CP_element_16 rfl ?_
  refine tk_iload (pc := 17) d_CP_element_17 rfl ?_
  refine tk_iconst (pc := 19) (v := 0) d_CP_element_19 (by decide) ?_
  refine tk_sipush (pc := 20) (v := 10000) d_CP_element_20 (by decide) ?_
  refine tk_callSr (pc := 23) d_CP_element_23 l_CP_58 k_CP_requireSpan (c_rs_ok h1 h2 h3 h4) rfl (by omega) (Nat.le_of_ble_eq_true rfl) (Nat.le_of_ble_eq_true rfl) (Nat.le_of_ble_eq_true rfl) rfl rfl ?_
  refine tk_aload_n (pc := 26) d_CP_element_26 rfl ?_
  refine tk_get (pc := 27) d_CP_element_27 f_CP_10 rfl rfl ?_
  refine tk_get (pc := 30) d_CP_element_30 f_CP_62 rfl rfl ?_
  refine tk_iload_n (pc := 33) d_CP_element_33 rfl ?_
  refine tk_iconst (pc := 34) (v := 4) d_CP_element_34 (by decide) ?_
  refine tk_imul (pc := 35) d_CP_element_35 ?_
  refine tk_iload_n (pc := 36) d_CP_element_36 rfl ?_
  refine tk_iadd (pc := 37) d_CP_element_37 ?_
  refine tk_iload_n (pc := 38) d_CP_element_38 rfl ?_
  refine tk_iast (pc := 39) (i*4+e) d_CP_element_39 rfl (ixma i 4 e) (by omega) (by decide) ?_
  refine tk_aload_n (pc := 40) d_CP_element_40 rfl ?_
  refine tk_get (pc := 41) d_CP_element_41 f_CP_10 rfl rfl ?_
  refine tk_get (pc := 44) d_CP_element_44 f_CP_66 rfl rfl ?_
  refine tk_iload_n (pc := 47) d_CP_element_47 rfl ?_
  refine tk_iconst (pc := 48) (v := 4) d_CP_element_48 (by decide) ?_
  refine tk_imul (pc := 49) d_CP_element_49 ?_
  refine tk_iload_n (pc := 50) d_CP_element_50 rfl ?_
  refine tk_iadd (pc := 51) d_CP_element_51 ?_
  refine tk_iload (pc := 52) d_CP_element_52 rfl ?_
  refine tk_iast (pc := 54) (i*4+e) d_CP_element_54 rfl (ixma i 4 e) (by omega) (by decide) ?_
  exact tk_return (pc := 55) d_CP_element_55 rfl (Nat.le_of_ble_eq_true rfl) (Nat.le_of_ble_eq_true rfl) ⟨rfl, rfl⟩
theorem m_limit_no {i a : Int32} (hi : i < 0 ∨ ¬ i < nI n) : tk_M y_CP_limit w_CP_limit 10 1 6 [.ref 0, .int i, .int a] (wd (nI n, gk, gc, gs, gl, ga, gb) h p c t) (tk_det (.inr eI) (wd (nI n, gk, gc, gs, gl, ga, gb) h p c t)) := by
  refine tk_M.of (lv := [some (.ref 0), some (.int i), some (.int a)]) (by decide) (Nat.le_of_ble_eq_true rfl) rfl ?_
  refine tk_iload_n (pc := 0) d_CP_limit_0 rfl ?_
  refine tk_aload_n (pc := 1) d_CP_limit_1 rfl ?_
  refine tk_get (pc := 2) d_CP_limit_2 f_CP_10 rfl rfl ?_
  refine tk_get (pc := 5) d_CP_limit_5 f_CP_37 rfl rfl ?_
  refine tk_callSx (pc := 8) d_CP_limit_8 l_CP_54 k_CP_requireIndex (c_ri_no hi) rfl (by omega) (Nat.le_of_ble_eq_true rfl) (Nat.le_of_ble_eq_true rfl) (Nat.le_of_ble_eq_true rfl) rfl rfl (by simp) ?_
  exact ⟨rfl, rfl⟩
theorem m_limit_bad {i : Nat} {a : Int32} (hi : i < n) (hn : n < 6) (hb : a < 0 ∨ 6 < a) : tk_M y_CP_limit w_CP_limit 10 1 6 [.ref 0, .int (nI i), .int a] (wd (nI n, gk, gc, gs, gl, ga, gb) h p c t) (tk_det (.inr eA) (wd (nI n, gk, gc, gs, gl, ga, gb) h p c t)) := by
  refine tk_M.of (lv := [some (.ref 0), some (.int (nI i)), some (.int a)]) (by decide) (Nat.le_of_ble_eq_true rfl) rfl ?_
  refine tk_iload_n (pc := 0) d_CP_limit_0 rfl ?_
  refine tk_aload_n (pc := 1) d_CP_limit_1 rfl ?_
  refine tk_get (pc := 2) d_CP_limit_2 f_CP_10 rfl rfl ?_
  refine tk_get (pc := 5) d_CP_limit_5 f_CP_37 rfl rfl ?_
  refine tk_callSr (pc := 8) d_CP_limit_8 l_CP_54 k_CP_requireIndex (c_ri_ok (nI_pos (by omega)) (nI_lt hi (by omega))) rfl (by omega) (Nat.le_of_ble_eq_true rfl) (Nat.le_of_ble_eq_true rfl) (Nat.le_of_ble_eq_true rfl) rfl rfl ?_
  refine tk_iload_n (pc := 11) d_CP_limit_11 rfl ?_
  refine tk_iconst (pc := 12) (v := 0) d_CP_limit_12 (by decide) ?_
  refine tk_bipush (pc := 13) (v := 6) d_CP_limit_13 (by decide) ?_
  refine tk_callSx (pc := 15) d_CP_limit_15 l_CP_45 k_CP_requireRange (c_rr_no hb) rfl (by omega) (Nat.le_of_ble_eq_true rfl) (Nat.le_of_ble_eq_true rfl) (Nat.le_of_ble_eq_true rfl) rfl rfl (by simp) ?_
  exact ⟨rfl, rfl⟩
theorem m_limit_ok {i : Nat} {a : Int32} (hi : i < n) (hn : n < 6) (hb : ¬ (a < 0 ∨ 6 < a)) : tk_M y_CP_limit w_CP_limit 10 1 6 [.ref 0, .int (nI i), .int a] (wd (nI n, gk, gc, gs, gl, ga, gb) h p c t) (tk_det (.inl none) (wd (nI n, gk, gc, gs, upd gl i a, ga, gb) h p c t)) := by
  refine tk_M.of (lv := [some (.ref 0), some (.int (nI i)), some (.int a)]) (by decide) (Nat.le_of_ble_eq_true rfl) rfl ?_
  refine tk_iload_n (pc := 0) d_CP_limit_0 rfl ?_
  refine tk_aload_n (pc := 1) d_CP_limit_1 rfl ?_
  refine tk_get (pc := 2) d_CP_limit_2 f_CP_10 rfl rfl ?_
  refine tk_get (pc := 5) d_CP_limit_5 f_CP_37 rfl rfl ?_
  refine tk_callSr (pc := 8) d_CP_limit_8 l_CP_54 k_CP_requireIndex (c_ri_ok (nI_pos (by omega)) (nI_lt hi (by omega))) rfl (by omega) (Nat.le_of_ble_eq_true rfl) (Nat.le_of_ble_eq_true rfl) (Nat.le_of_ble_eq_true rfl) rfl rfl ?_
  refine tk_iload_n (pc := 11) d_CP_limit_11 rfl ?_
  refine tk_iconst (pc := 12) (v := 0) d_CP_limit_12 (by decide) ?_
  refine tk_bipush (pc := 13) (v := 6) d_CP_limit_13 (by decide) ?_
  refine tk_callSr (pc := 15) d_CP_limit_15 l_CP_45 k_CP_requireRange (c_rr_ok (fun z => hb (Or.inl z)) (fun z => hb (Or.inr z))) rfl (by omega) (Nat.le_of_ble_eq_true rfl) (Nat.le_of_ble_eq_true rfl) (Nat.le_of_ble_eq_true rfl) rfl rfl ?_
  refine tk_aload_n (pc := 18) d_CP_limit_18 rfl ?_
  refine tk_get (pc := 19) d_CP_limit_19 f_CP_10 rfl rfl ?_
  refine tk_get (pc := 22) d_CP_limit_22 f_CP_69 rfl rfl ?_
  refine tk_iload_n (pc := 25) d_CP_limit_25 rfl ?_
  refine tk_iload_n (pc := 26) d_CP_limit_26 rfl ?_
  refine tk_iast (pc := 27) i d_CP_limit_27 rfl rfl (by omega) (by decide) ?_
  exact tk_return (pc := 28) d_CP_limit_28 rfl (Nat.le_of_ble_eq_true rfl) (Nat.le_of_ble_eq_true rfl) ⟨rfl, rfl⟩
theorem m_arrive_no {i a : Int32} (hi : i < 0 ∨ ¬ i < nI n) : tk_M y_CP_arrive w_CP_arrive 10 1 6 [.ref 0, .int i, .int a] (wd (nI n, gk, gc, gs, gl, ga, gb) h p c t) (tk_det (.inr eI) (wd (nI n, gk, gc, gs, gl, ga, gb) h p c t)) := by
  refine tk_M.of (lv := [some (.ref 0), some (.int i), some (.int a)]) (by decide) (Nat.le_of_ble_eq_true rfl) rfl ?_
  refine tk_iload_n (pc := 0) d_CP_arrive_0 rfl ?_
  refine tk_aload_n (pc := 1) d_CP_arrive_1 rfl ?_
  refine tk_get (pc := 2) d_CP_arrive_2 f_CP_10 rfl rfl ?_
  refine tk_get (pc := 5) d_CP_arrive_5 f_CP_37 rfl rfl ?_
  refine tk_callSx (pc := 8) d_CP_arrive_8 l_CP_54 k_CP_requireIndex (c_ri_no hi) rfl (by omega) (Nat.le_of_ble_eq_true rfl) (Nat.le_of_ble_eq_true rfl) (Nat.le_of_ble_eq_true rfl) rfl rfl (by simp) ?_
  exact ⟨rfl, rfl⟩
theorem m_arrive_bad {i : Nat} {a : Int32} (hi : i < n) (hn : n < 6) (hb : a < 0) : tk_M y_CP_arrive w_CP_arrive 10 1 6 [.ref 0, .int (nI i), .int a] (wd (nI n, gk, gc, gs, gl, ga, gb) h p c t) (tk_det (.inr eA) (wd (nI n, gk, gc, gs, gl, ga, gb) h p c t)) := by
  refine tk_M.of (lv := [some (.ref 0), some (.int (nI i)), some (.int a)]) (by decide) (Nat.le_of_ble_eq_true rfl) rfl ?_
  refine tk_iload_n (pc := 0) d_CP_arrive_0 rfl ?_
  refine tk_aload_n (pc := 1) d_CP_arrive_1 rfl ?_
  refine tk_get (pc := 2) d_CP_arrive_2 f_CP_10 rfl rfl ?_
  refine tk_get (pc := 5) d_CP_arrive_5 f_CP_37 rfl rfl ?_
  refine tk_callSr (pc := 8) d_CP_arrive_8 l_CP_54 k_CP_requireIndex (c_ri_ok (nI_pos (by omega)) (nI_lt hi (by omega))) rfl (by omega) (Nat.le_of_ble_eq_true rfl) (Nat.le_of_ble_eq_true rfl) (Nat.le_of_ble_eq_true rfl) rfl rfl ?_
  refine tk_iload_n (pc := 11) d_CP_arrive_11 rfl ?_
  refine tk_if_lt (pc := 12) (tgt := 19) d_CP_arrive_12 (by decide) (fun hc => ?_) (fun hc => ?_)
  · refine tk_iconst (pc := 19) (v := 0) d_CP_arrive_19 (by decide) ?_
    refine tk_callSx (pc := 20) d_CP_arrive_20 l_CP_72 k_CP_requireArgument (c_ra_no) rfl (by omega) (Nat.le_of_ble_eq_true rfl) (Nat.le_of_ble_eq_true rfl) (Nat.le_of_ble_eq_true rfl) rfl rfl (by simp) ?_
    exact ⟨rfl, rfl⟩
  · exact absurd hb hc
theorem m_arrive_much {i : Nat} {a : Int32} (hi : i < n) (hn : n < 6) (ha : ¬ a < 0) (hb : 6 - gs i < a) : tk_M y_CP_arrive w_CP_arrive 10 1 6 [.ref 0, .int (nI i), .int a] (wd (nI n, gk, gc, gs, gl, ga, gb) h p c t) (tk_det (.inr eU) (wd (nI n, gk, gc, gs, gl, ga, gb) h p c t)) := by
  refine tk_M.of (lv := [some (.ref 0), some (.int (nI i)), some (.int a)]) (by decide) (Nat.le_of_ble_eq_true rfl) rfl ?_
  refine tk_iload_n (pc := 0) d_CP_arrive_0 rfl ?_
  refine tk_aload_n (pc := 1) d_CP_arrive_1 rfl ?_
  refine tk_get (pc := 2) d_CP_arrive_2 f_CP_10 rfl rfl ?_
  refine tk_get (pc := 5) d_CP_arrive_5 f_CP_37 rfl rfl ?_
  refine tk_callSr (pc := 8) d_CP_arrive_8 l_CP_54 k_CP_requireIndex (c_ri_ok (nI_pos (by omega)) (nI_lt hi (by omega))) rfl (by omega) (Nat.le_of_ble_eq_true rfl) (Nat.le_of_ble_eq_true rfl) (Nat.le_of_ble_eq_true rfl) rfl rfl ?_
  refine tk_iload_n (pc := 11) d_CP_arrive_11 rfl ?_
  refine tk_if_lt (pc := 12) (tgt := 19) d_CP_arrive_12 (by decide) (fun hc => ?_) (fun hc => ?_)
  · exact absurd hc ha
  refine tk_iconst (pc := 15) (v := 1) d_CP_arrive_15 (by decide) ?_
  refine tk_goto (pc := 16) (tgt := 20) d_CP_arrive_16 (by decide) ?_
  refine tk_callSr (pc := 20) d_CP_arrive_20 l_CP_72 k_CP_requireArgument (c_ra_ok (b := 1) (by decide)) rfl (by omega) (Nat.le_of_ble_eq_true rfl) (Nat.le_of_ble_eq_true rfl) (Nat.le_of_ble_eq_true rfl) rfl rfl ?_
  refine tk_iload_n (pc := 23) d_CP_arrive_23 rfl ?_
  refine tk_bipush (pc := 24) (v := 6) d_CP_arrive_24 (by decide) ?_
  refine tk_aload_n (pc := 26) d_CP_arrive_26 rfl ?_
  refine tk_get (pc := 27) d_CP_arrive_27 f_CP_10 rfl rfl ?_
  refine tk_get (pc := 30) d_CP_arrive_30 f_CP_75 rfl rfl ?_
  refine tk_iload_n (pc := 33) d_CP_arrive_33 rfl ?_
  refine tk_iald (pc := 34) i d_CP_arrive_34 rfl rfl (by omega) (by decide) ?_
  refine tk_isub (pc := 35) d_CP_arrive_35 ?_
  refine tk_icmp_gt (pc := 36) (tgt := 43) d_CP_arrive_36 (by decide) (fun hd => ?_) (fun hd => ?_)
  · refine tk_iconst (pc := 43) (v := 0) d_CP_arrive_43 (by decide) ?_
    refine tk_callSx (pc := 44) d_CP_arrive_44 l_CP_78 k_CP_requireMeaning (c_rm_no) rfl (by omega) (Nat.le_of_ble_eq_true rfl) (Nat.le_of_ble_eq_true rfl) (Nat.le_of_ble_eq_true rfl) rfl rfl (by simp) ?_
    exact ⟨rfl, rfl⟩
  · exact absurd hb hd
theorem m_arrive_ok {i : Nat} {a : Int32} (hi : i < n) (hn : n < 6) (ha : ¬ a < 0) (hb : ¬ 6 - gs i < a) : tk_M y_CP_arrive w_CP_arrive 10 1 6 [.ref 0, .int (nI i), .int a] (wd (nI n, gk, gc, gs, gl, ga, gb) h p c t) (tk_det (.inl (some (.int (gs i + a)))) (wd (nI n, gk, gc, upd gs i (gs i + a), gl, ga, gb) h p c t)) := by
  refine tk_M.of (lv := [some (.ref 0), some (.int (nI i)), some (.int a)]) (by decide) (Nat.le_of_ble_eq_true rfl) rfl ?_
  refine tk_iload_n (pc := 0) d_CP_arrive_0 rfl ?_
  refine tk_aload_n (pc := 1) d_CP_arrive_1 rfl ?_
  refine tk_get (pc := 2) d_CP_arrive_2 f_CP_10 rfl rfl ?_
  refine tk_get (pc := 5) d_CP_arrive_5 f_CP_37 rfl rfl ?_
  refine tk_callSr (pc := 8) d_CP_arrive_8 l_CP_54 k_CP_requireIndex (c_ri_ok (nI_pos (by omega)) (nI_lt hi (by omega))) rfl (by omega) (Nat.le_of_ble_eq_true rfl) (Nat.le_of_ble_eq_true rfl) (Nat.le_of_ble_eq_true rfl) rfl rfl ?_
  refine tk_iload_n (pc := 11) d_CP_arrive_11 rfl ?_
  refine tk_if_lt (pc := 12) (tgt := 19) d_CP_arrive_12 (by decide) (fun hc => ?_) (fun hc => ?_)
  · exact absurd hc ha
  refine tk_iconst (pc := 15) (v := 1) d_CP_arrive_15 (by decide) ?_
  refine tk_goto (pc := 16) (tgt := 20) d_CP_arrive_16 (by decide) ?_
  refine tk_callSr (pc := 20) d_CP_arrive_20 l_CP_72 k_CP_requireArgument (c_ra_ok (b := 1) (by decide)) rfl (by omega) (Nat.le_of_ble_eq_true rfl) (Nat.le_of_ble_eq_true rfl) (Nat.le_of_ble_eq_true rfl) rfl rfl ?_
  refine tk_iload_n (pc := 23) d_CP_arrive_23 rfl ?_
  refine tk_bipush (pc := 24) (v := 6) d_CP_arrive_24 (by decide) ?_
  refine tk_aload_n (pc := 26) d_CP_arrive_26 rfl ?_
  refine tk_get (pc := 27) d_CP_arrive_27 f_CP_10 rfl rfl ?_
  refine tk_get (pc := 30) d_CP_arrive_30 f_CP_75 rfl rfl ?_
  refine tk_iload_n (pc := 33) d_CP_arrive_33 rfl ?_
  refine tk_iald (pc := 34) i d_CP_arrive_34 rfl rfl (by omega) (by decide) ?_
  refine tk_isub (pc := 35) d_CP_arrive_35 ?_
  refine tk_icmp_gt (pc := 36) (tgt := 43) d_CP_arrive_36 (by decide) (fun hd => ?_) (fun hd => ?_)
  · exact absurd hd hb
  refine tk_iconst (pc := 39) (v := 1) d_CP_arrive_39 (by decide) ?_
  refine tk_goto (pc := 40) (tgt := 44) d_CP_arrive_40 (by decide) ?_
  refine tk_callSr (pc := 44) d_CP_arrive_44 l_CP_78 k_CP_requireMeaning (c_rm_ok (b := 1) (by decide)) rfl (by omega) (Nat.le_of_ble_eq_true rfl) (Nat.le_of_ble_eq_true rfl) (Nat.le_of_ble_eq_true rfl) rfl rfl ?_
  refine tk_aload_n (pc := 47) d_CP_arrive_47 rfl ?_
  refine tk_get (pc := 48) d_CP_arrive_48 f_CP_10 rfl rfl ?_
  refine tk_get (pc := 51) d_CP_arrive_51 f_CP_75 rfl rfl ?_
  refine tk_iload_n (pc := 54) d_CP_arrive_54 rfl ?_
  refine tk_dup2 (pc := 55) d_CP_arrive_55 rfl rfl ?_
  refine tk_iald (pc := 56) i d_CP_arrive_56 rfl rfl (by omega) (by decide) ?_
  refine tk_iload_n (pc := 57) d_CP_arrive_57 rfl ?_
  refine tk_iadd (pc := 58) d_CP_arrive_58 ?_
  refine tk_iast (pc := 59) i d_CP_arrive_59 rfl rfl (by omega) (by decide) ?_
  refine tk_aload_n (pc := 60) d_CP_arrive_60 rfl ?_
  refine tk_get (pc := 61) d_CP_arrive_61 f_CP_10 rfl rfl ?_
  refine tk_get (pc := 64) d_CP_arrive_64 f_CP_75 rfl rfl ?_
  refine tk_iload_n (pc := 67) d_CP_arrive_67 rfl ?_
  refine tk_iald (pc := 68) i d_CP_arrive_68 rfl rfl (by omega) (by decide) ?_
  exact tk_ireturn (pc := 69) d_CP_arrive_69 rfl rfl (Nat.le_of_ble_eq_true rfl) (Nat.le_of_ble_eq_true rfl) ⟨by rw [pk_us], rfl⟩
theorem m_stock_no {i : Int32} (hi : i < 0 ∨ ¬ i < nI n) : tk_M y_CP_stock w_CP_stock 10 1 6 [.ref 0, .int i] (wd (nI n, gk, gc, gs, gl, ga, gb) h p c t) (tk_det (.inr eI) (wd (nI n, gk, gc, gs, gl, ga, gb) h p c t)) := by
  refine tk_M.of (lv := [some (.ref 0), some (.int i)]) (by decide) (Nat.le_of_ble_eq_true rfl) rfl ?_
  refine tk_iload_n (pc := 0) d_CP_stock_0 rfl ?_
  refine tk_aload_n (pc := 1) d_CP_stock_1 rfl ?_
  refine tk_get (pc := 2) d_CP_stock_2 f_CP_10 rfl rfl ?_
  refine tk_get (pc := 5) d_CP_stock_5 f_CP_37 rfl rfl ?_
  refine tk_callSx (pc := 8) d_CP_stock_8 l_CP_54 k_CP_requireIndex (c_ri_no hi) rfl (by omega) (Nat.le_of_ble_eq_true rfl) (Nat.le_of_ble_eq_true rfl) (Nat.le_of_ble_eq_true rfl) rfl rfl (by simp) ?_
  exact ⟨rfl, rfl⟩
theorem m_stock_ok {i : Nat} (hi : i < n) (hn : n < 6) : tk_M y_CP_stock w_CP_stock 10 1 6 [.ref 0, .int (nI i)] (wd (nI n, gk, gc, gs, gl, ga, gb) h p c t) (tk_det (.inl (some (.int (gs i)))) (wd (nI n, gk, gc, gs, gl, ga, gb) h p c t)) := by
  refine tk_M.of (lv := [some (.ref 0), some (.int (nI i))]) (by decide) (Nat.le_of_ble_eq_true rfl) rfl ?_
  refine tk_iload_n (pc := 0) d_CP_stock_0 rfl ?_
  refine tk_aload_n (pc := 1) d_CP_stock_1 rfl ?_
  refine tk_get (pc := 2) d_CP_stock_2 f_CP_10 rfl rfl ?_
  refine tk_get (pc := 5) d_CP_stock_5 f_CP_37 rfl rfl ?_
  refine tk_callSr (pc := 8) d_CP_stock_8 l_CP_54 k_CP_requireIndex (c_ri_ok (nI_pos (by omega)) (nI_lt hi (by omega))) rfl (by omega) (Nat.le_of_ble_eq_true rfl) (Nat.le_of_ble_eq_true rfl) (Nat.le_of_ble_eq_true rfl) rfl rfl ?_
  refine tk_aload_n (pc := 11) d_CP_stock_11 rfl ?_
  refine tk_get (pc := 12) d_CP_stock_12 f_CP_10 rfl rfl ?_
  refine tk_get (pc := 15) d_CP_stock_15 f_CP_75 rfl rfl ?_
  refine tk_iload_n (pc := 18) d_CP_stock_18 rfl ?_
  refine tk_iald (pc := 19) i d_CP_stock_19 rfl rfl (by omega) (by decide) ?_
  exact tk_ireturn (pc := 20) d_CP_stock_20 rfl rfl (Nat.le_of_ble_eq_true rfl) (Nat.le_of_ble_eq_true rfl) ⟨rfl, rfl⟩
end PUB1
section PUB2
variable {g : sG} {p : sP} {c : sC} {t : tk_W} {lo hi ls hs mb pc bd : Ar} {n : Nat}
theorem m_heat_full {a b : Int32} : tk_M y_CP_heat w_CP_heat 10 1 6 [.ref 0, .int a, .int b] (wd g (nI 4, lo, hi, ls, hs, mb, pc, bd) p c t) (tk_det (.inr eS) (wd g (nI 4, lo, hi, ls, hs, mb, pc, bd) p c t)) := by
  refine tk_M.of (lv := [some (.ref 0), some (.int a), some (.int b)]) (by decide) (Nat.le_of_ble_eq_true rfl) rfl ?_
  refine tk_aload_n (pc := 0) d_CP_heat_0 rfl ?_
  refine tk_get (pc := 1) d_CP_heat_1 f_CP_19 rfl rfl ?_
  refine tk_get (pc := 4) d_CP_heat_4 f_CP_81 rfl rfl ?_
  refine tk_iconst (pc := 7) (v := 4) d_CP_heat_7 (by decide) ?_
  refine tk_icmp_ge (pc := 8) (tgt := 15) d_CP_heat_8 (by decide) (fun hb => ?_) (fun hb => ?_)
  · refine tk_iconst (pc := 15) (v := 0) d_CP_heat_15 (by decide) ?_
    refine tk_callSx (pc := 16) d_CP_heat_16 l_CP_41 k_CP_requireTurn (c_rt_no) rfl (by omega) (Nat.le_of_ble_eq_true rfl) (Nat.le_of_ble_eq_true rfl) (Nat.le_of_ble_eq_true rfl) rfl rfl (by simp) ?_
    exact ⟨rfl, rfl⟩
  · exact absurd (show (4 : Int32) ≤ nI 4 from by decide) hb
theorem m_heat_bad {a b : Int32} (hn : n < 4) (hb : (a < 1 ∨ 100000 < a) ∨ (b < a ∨ 100000 < b)) : tk_M y_CP_heat w_CP_heat 10 1 6 [.ref 0, .int a, .int b] (wd g (nI n, lo, hi, ls, hs, mb, pc, bd) p c t) (tk_det (.inr eA) (wd g (nI n, lo, hi, ls, hs, mb, pc, bd) p c t)) := by
  refine tk_M.of (lv := [some (.ref 0), some (.int a), some (.int b)]) (by decide) (Nat.le_of_ble_eq_true rfl) rfl ?_
  refine tk_aload_n (pc := 0) d_CP_heat_0 rfl ?_
  refine tk_get (pc := 1) d_CP_heat_1 f_CP_19 rfl rfl ?_
  refine tk_get (pc := 4) d_CP_heat_4 f_CP_81 rfl rfl ?_
  refine tk_iconst (pc := 7) (v := 4) d_CP_heat_7 (by decide) ?_
  refine tk_icmp_ge (pc := 8) (tgt := 15) d_CP_heat_8 (by decide) (fun hc => ?_) (fun hc => ?_)
  · exact absurd hc (nI_ge hn (by decide))
  refine tk_iconst (pc := 11) (v := 1) d_CP_heat_11 (by decide) ?_
  refine tk_goto (pc := 12) (tgt := 16) d_CP_heat_12 (by decide) ?_
  refine tk_callSr (pc := 16) d_CP_heat_16 l_CP_41 k_CP_requireTurn (c_rt_ok (b := 1) (by decide)) rfl (by omega) (Nat.le_of_ble_eq_true rfl) (Nat.le_of_ble_eq_true rfl) (Nat.le_of_ble_eq_true rfl) rfl rfl ?_
  refine tk_iload_n (pc := 19) d_CP_heat_19 rfl ?_
  refine tk_iload_n (pc := 20) d_CP_heat_20 rfl ?_
  refine tk_iconst (pc := 21) (v := 1) d_CP_heat_21 (by decide) ?_
  refine tk_ldc (pc := 22) d_CP_heat_22 q_CP_49 ?_
  refine tk_callSx (pc := 24) d_CP_heat_24 l_CP_58 k_CP_requireSpan (c_rs_no hb) rfl (by omega) (Nat.le_of_ble_eq_true rfl) (Nat.le_of_ble_eq_true rfl) (Nat.le_of_ble_eq_true rfl) rfl rfl (by simp) ?_
  exact ⟨rfl, rfl⟩
theorem m_heat_ok {a b : Int32} (hn : n < 4) (h1 : ¬ a < 1) (h2 : ¬ 100000 < a) (h3 : ¬ b < a) (h4 : ¬ 100000 < b) : tk_M y_CP_heat w_CP_heat 10 1 6 [.ref 0, .int a, .int b] (wd g (nI n, lo, hi, ls, hs, mb, pc, bd) p c t) (tk_det (.inl (some (.int (nI n)))) (wd g (nI (n + 1), upd lo n a, upd hi n b, ls, fil hs (n * 4) 4 10000, upd mb n 30, upd pc n (-1), bd) p c t)) := by
  refine tk_M.of (lv := [some (.ref 0), some (.int a), some (.int b)]) (by decide) (Nat.le_of_ble_eq_true rfl) rfl ?_
  refine tk_aload_n (pc := 0) d_CP_heat_0 rfl ?_
  refine tk_get (pc := 1) d_CP_heat_1 f_CP_19 rfl rfl ?_
  refine tk_get (pc := 4) d_CP_heat_4 f_CP_81 rfl rfl ?_
  refine tk_iconst (pc := 7) (v := 4) d_CP_heat_7 (by decide) ?_
  refine tk_icmp_ge (pc := 8) (tgt := 15) d_CP_heat_8 (by decide) (fun hc => ?_) (fun hc => ?_)
  · exact absurd hc (nI_ge hn (by decide))
  refine tk_iconst (pc := 11) (v := 1) d_CP_heat_11 (by decide) ?_
  refine tk_goto (pc := 12) (tgt := 16) d_CP_heat_12 (by decide) ?_
  refine tk_callSr (pc := 16) d_CP_heat_16 l_CP_41 k_CP_requireTurn (c_rt_ok (b := 1) (by decide)) rfl (by omega) (Nat.le_of_ble_eq_true rfl) (Nat.le_of_ble_eq_true rfl) (Nat.le_of_ble_eq_true rfl) rfl rfl ?_
  refine tk_iload_n (pc := 19) d_CP_heat_19 rfl ?_
  refine tk_iload_n (pc := 20) d_CP_heat_20 rfl ?_
  refine tk_iconst (pc := 21) (v := 1) d_CP_heat_21 (by decide) ?_
  refine tk_ldc (pc := 22) d_CP_heat_22 q_CP_49 ?_
  refine tk_callSr (pc := 24) d_CP_heat_24 l_CP_58 k_CP_requireSpan (c_rs_ok h1 h2 h3 h4) rfl (by omega) (Nat.le_of_ble_eq_true rfl) (Nat.le_of_ble_eq_true rfl) (Nat.le_of_ble_eq_true rfl) rfl rfl ?_
  refine tk_aload_n (pc := 27) d_CP_heat_27 rfl ?_
  refine tk_get (pc := 28) d_CP_heat_28 f_CP_19 rfl rfl ?_
  refine tk_iload_n (pc := 31) d_CP_heat_31 rfl ?_
  refine tk_iload_n (pc := 32) d_CP_heat_32 rfl ?_
  refine tk_callVr (pc := 33) d_CP_heat_33 l_CP_82 k_H_append rfl rfl rfl (m_H_append (a := a) (b := b) hn) rfl (by omega) (Nat.le_of_ble_eq_true rfl) (Nat.le_of_ble_eq_true rfl) (Nat.le_of_ble_eq_true rfl) rfl rfl ?_
  exact tk_ireturn (pc := 36) d_CP_heat_36 rfl rfl (Nat.le_of_ble_eq_true rfl) (Nat.le_of_ble_eq_true rfl) ⟨rfl, rfl⟩
theorem m_span_no {i e a b : Int32} (hi' : (i < 0 ∨ ¬ i < nI n) ∨ (e < 0 ∨ ¬ e < 4)) : tk_M y_CP_span w_CP_span 10 1 6 [.ref 0, .int i, .int e, .int a, .int b] (wd g (nI n, lo, hi, ls, hs, mb, pc, bd) p c t) (tk_det (.inr eI) (wd g (nI n, lo, hi, ls, hs, mb, pc, bd) p c t)) := by
  refine tk_M.of (lv := [some (.ref 0), some (.int i), some (.int e), some (.int a), some (.int b)]) (by decide) (Nat.le_of_ble_eq_true rfl) rfl ?_
  refine tk_iload_n (pc := 0) d_CP_span_0 rfl ?_
  refine tk_aload_n (pc := 1) d_CP_span_1 rfl ?_
  refine tk_get (pc := 2) d_CP_span_2 f_CP_19 rfl rfl ?_
  refine tk_get (pc := 5) d_CP_span_5 f_CP_81 rfl rfl ?_
  by_cases h1 : i < 0 ∨ ¬ i < nI n
  · refine tk_callSx (pc := 8) d_CP_span_8 l_CP_54 k_CP_requireIndex (c_ri_no h1) rfl (by omega) (Nat.le_of_ble_eq_true rfl) (Nat.le_of_ble_eq_true rfl) (Nat.le_of_ble_eq_true rfl) rfl rfl (by simp) ?_
    exact ⟨rfl, rfl⟩
  refine tk_callSr (pc := 8) d_CP_span_8 l_CP_54 k_CP_requireIndex (c_ri_ok (fun z => h1 (Or.inl z)) (Classical.not_not.mp (fun z => h1 (Or.inr z)))) rfl (by omega) (Nat.le_of_ble_eq_true rfl) (Nat.le_of_ble_eq_true rfl) (Nat.le_of_ble_eq_true rfl) rfl rfl ?_
  refine tk_iload_n (pc := 11) d_CP_span_11 rfl ?_
  refine tk_iconst (pc := 12) (v := 4) d_CP_span_12 (by decide) ?_
  refine tk_callSx (pc := 13) d_CP_span_13 l_CP_54 k_CP_requireIndex (c_ri_no (hi'.resolve_left h1)) rfl (by omega) (Nat.le_of_ble_eq_true rfl) (Nat.le_of_ble_eq_true rfl) (Nat.le_of_ble_eq_true rfl) rfl rfl (by simp) ?_
  exact ⟨rfl, rfl⟩
theorem m_span_bad {i e : Nat} {a b : Int32} (hi' : i < n) (hn : n < 5) (he : e < 4) (hb : (a < 0 ∨ 10000 < a) ∨ (b < a ∨ 10000 < b)) : tk_M y_CP_span w_CP_span 10 1 6 [.ref 0, .int (nI i), .int (nI e), .int a, .int b] (wd g (nI n, lo, hi, ls, hs, mb, pc, bd) p c t) (tk_det (.inr eA) (wd g (nI n, lo, hi, ls, hs, mb, pc, bd) p c t)) := by
  refine tk_M.of (lv := [some (.ref 0), some (.int (nI i)), some (.int (nI e)), some (.int a), some (.int b)]) (by decide) (Nat.le_of_ble_eq_true rfl) rfl ?_
  refine tk_iload_n (pc := 0) d_CP_span_0 rfl ?_
  refine tk_aload_n (pc := 1) d_CP_span_1 rfl ?_
  refine tk_get (pc := 2) d_CP_span_2 f_CP_19 rfl rfl ?_
  refine tk_get (pc := 5) d_CP_span_5 f_CP_81 rfl rfl ?_
  refine tk_callSr (pc := 8) d_CP_span_8 l_CP_54 k_CP_requireIndex (c_ri_ok (nI_pos (by omega)) (nI_lt hi' (by omega))) rfl (by omega) (Nat.le_of_ble_eq_true rfl) (Nat.le_of_ble_eq_true rfl) (Nat.le_of_ble_eq_true rfl) rfl rfl ?_
  refine tk_iload_n (pc := 11) d_CP_span_11 rfl ?_
  refine tk_iconst (pc := 12) (v := 4) d_CP_span_12 (by decide) ?_
  refine tk_callSr (pc := 13) d_CP_span_13 l_CP_54 k_CP_requireIndex (c_ri_ok (nI_pos (by omega)) (nI_lt (b := 4) he (by omega))) rfl (by omega) (Nat.le_of_ble_eq_true rfl) (Nat.le_of_ble_eq_true rfl) (Nat.le_of_ble_eq_true rfl) rfl rfl ?_
  refine tk_iload_n (pc := 16) d_CP_span_16 rfl ?_
  refine tk_iload (pc := 17) d_CP_span_17 rfl ?_
  refine tk_iconst (pc := 19) (v := 0) d_CP_span_19 (by decide) ?_
  refine tk_sipush (pc := 20) (v := 10000) d_CP_span_20 (by decide) ?_
  refine tk_callSx (pc := 23) d_CP_span_23 l_CP_58 k_CP_requireSpan (c_rs_no hb) rfl (by omega) (Nat.le_of_ble_eq_true rfl) (Nat.le_of_ble_eq_true rfl) (Nat.le_of_ble_eq_true rfl) rfl rfl (by simp) ?_
  exact ⟨rfl, rfl⟩
theorem m_span_ok {i e : Nat} {a b : Int32} (hi' : i < n) (hn : n < 5) (he : e < 4) (h1 : ¬ a < 0) (h2 : ¬ 10000 < a) (h3 : ¬ b < a) (h4 : ¬ 10000 < b) : tk_M y_CP_span w_CP_span 10 1 6 [.ref 0, .int (nI i), .int (nI e), .int a, .int b] (wd g (nI n, lo, hi, ls, hs, mb, pc, bd) p c t) (tk_det (.inl none) (wd g (nI n, lo, hi, upd ls (i * 4 + e) a, upd hs (i * 4 + e) b, mb, pc, bd) p c t)) := by
  refine tk_M.of (lv := [some (.ref 0), some (.int (nI i)), some (.int (nI e)), some (.int a), some (.int b)]) (by decide) (Nat.le_of_ble_eq_true rfl) rfl ?_
  refine tk_iload_n (pc := 0) d_CP_span_0 rfl ?_
  refine tk_aload_n (pc := 1) d_CP_span_1 rfl ?_
  refine tk_get (pc := 2) d_CP_span_2 f_CP_19 rfl rfl ?_
  refine tk_get (pc := 5) d_CP_span_5 f_CP_81 rfl rfl ?_
  refine tk_callSr (pc := 8) d_CP_span_8 l_CP_54 k_CP_requireIndex (c_ri_ok (nI_pos (by omega)) (nI_lt hi' (by omega))) rfl (by omega) (Nat.le_of_ble_eq_true rfl) (Nat.le_of_ble_eq_true rfl) (Nat.le_of_ble_eq_true rfl) rfl rfl ?_
  refine tk_iload_n (pc := 11) d_CP_span_11 rfl ?_
  refine tk_iconst (pc := 12) (v := 4) d_CP_span_12 (by decide) ?_
  refine tk_callSr (pc := 13) d_CP_span_13 l_CP_54 k_CP_requireIndex (c_ri_ok (nI_pos (by omega)) (nI_lt (b := 4) he (by omega))) rfl (by omega) (Nat.le_of_ble_eq_true rfl) (Nat.le_of_ble_eq_true rfl) (Nat.le_of_ble_eq_true rfl) rfl rfl ?_
  refine tk_iload_n (pc := 16) d_CP_span_16 rfl ?_
  refine tk_iload (pc := 17) d_CP_span_17 rfl ?_
  refine tk_iconst (pc := 19) (v := 0) d_CP_span_19 (by decide) ?_
  refine tk_sipush (pc := 20) (v := 10000) d_CP_span_20 (by decide) ?_
  refine tk_callSr (pc := 23) d_CP_span_23 l_CP_58 k_CP_requireSpan (c_rs_ok h1 h2 h3 h4) rfl (by omega) (Nat.le_of_ble_eq_true rfl) (Nat.le_of_ble_eq_true rfl) (Nat.le_of_ble_eq_true rfl) rfl rfl ?_
  refine tk_aload_n (pc := 26) d_CP_span_26 rfl ?_
  refine tk_get (pc := 27) d_CP_span_27 f_CP_19 rfl rfl ?_
  refine tk_get (pc := 30) d_CP_span_30 f_CP_85 rfl rfl ?_
  refine tk_iload_n (pc := 33) d_CP_span_33 rfl ?_
  refine tk_iconst (pc := 34) (v := 4) d_CP_span_34 (by decide) ?_
  refine tk_imul (pc := 35) d_CP_span_35 ?_
  refine tk_iload_n (pc := 36) d_CP_span_36 rfl ?_
  refine tk_iadd (pc := 37) d_CP_span_37 ?_
  refine tk_iload_n (pc := 38) d_CP_span_38 rfl ?_
  refine tk_iast (pc := 39) (i*4+e) d_CP_span_39 rfl (ixma i 4 e) (by omega) (by decide) ?_
  refine tk_aload_n (pc := 40) d_CP_span_40 rfl ?_
  refine tk_get (pc := 41) d_CP_span_41 f_CP_19 rfl rfl ?_
  refine tk_get (pc := 44) d_CP_span_44 f_CP_86 rfl rfl ?_
  refine tk_iload_n (pc := 47) d_CP_span_47 rfl ?_
  refine tk_iconst (pc := 48) (v := 4) d_CP_span_48 (by decide) ?_
  refine tk_imul (pc := 49) d_CP_span_49 ?_
  refine tk_iload_n (pc := 50) d_CP_span_50 rfl ?_
  refine tk_iadd (pc := 51) d_CP_span_51 ?_
  refine tk_iload (pc := 52) d_CP_span_52 rfl ?_
  refine tk_iast (pc := 54) (i*4+e) d_CP_span_54 rfl (ixma i 4 e) (by omega) (by decide) ?_
  exact tk_return (pc := 55) d_CP_span_55 rfl (Nat.le_of_ble_eq_true rfl) (Nat.le_of_ble_eq_true rfl) ⟨rfl, rfl⟩
theorem m_most_no {i a : Int32} (hi' : i < 0 ∨ ¬ i < nI n) : tk_M y_CP_most w_CP_most 10 1 6 [.ref 0, .int i, .int a] (wd g (nI n, lo, hi, ls, hs, mb, pc, bd) p c t) (tk_det (.inr eI) (wd g (nI n, lo, hi, ls, hs, mb, pc, bd) p c t)) := by
  refine tk_M.of (lv := [some (.ref 0), some (.int i), some (.int a)]) (by decide) (Nat.le_of_ble_eq_true rfl) rfl ?_
  refine tk_iload_n (pc := 0) d_CP_most_0 rfl ?_
  refine tk_aload_n (pc := 1) d_CP_most_1 rfl ?_
  refine tk_get (pc := 2) d_CP_most_2 f_CP_19 rfl rfl ?_
  refine tk_get (pc := 5) d_CP_most_5 f_CP_81 rfl rfl ?_
  refine tk_callSx (pc := 8) d_CP_most_8 l_CP_54 k_CP_requireIndex (c_ri_no hi') rfl (by omega) (Nat.le_of_ble_eq_true rfl) (Nat.le_of_ble_eq_true rfl) (Nat.le_of_ble_eq_true rfl) rfl rfl (by simp) ?_
  exact ⟨rfl, rfl⟩
theorem m_most_bad {i : Nat} {a : Int32} (hi' : i < n) (hn : n < 5) (hb : a < 0 ∨ 30 < a) : tk_M y_CP_most w_CP_most 10 1 6 [.ref 0, .int (nI i), .int a] (wd g (nI n, lo, hi, ls, hs, mb, pc, bd) p c t) (tk_det (.inr eA) (wd g (nI n, lo, hi, ls, hs, mb, pc, bd) p c t)) := by
  refine tk_M.of (lv := [some (.ref 0), some (.int (nI i)), some (.int a)]) (by decide) (Nat.le_of_ble_eq_true rfl) rfl ?_
  refine tk_iload_n (pc := 0) d_CP_most_0 rfl ?_
  refine tk_aload_n (pc := 1) d_CP_most_1 rfl ?_
  refine tk_get (pc := 2) d_CP_most_2 f_CP_19 rfl rfl ?_
  refine tk_get (pc := 5) d_CP_most_5 f_CP_81 rfl rfl ?_
  refine tk_callSr (pc := 8) d_CP_most_8 l_CP_54 k_CP_requireIndex (c_ri_ok (nI_pos (by omega)) (nI_lt hi' (by omega))) rfl (by omega) (Nat.le_of_ble_eq_true rfl) (Nat.le_of_ble_eq_true rfl) (Nat.le_of_ble_eq_true rfl) rfl rfl ?_
  refine tk_iload_n (pc := 11) d_CP_most_11 rfl ?_
  refine tk_iconst (pc := 12) (v := 0) d_CP_most_12 (by decide) ?_
  refine tk_bipush (pc := 13) (v := 30) d_CP_most_13 (by decide) ?_
  refine tk_callSx (pc := 15) d_CP_most_15 l_CP_45 k_CP_requireRange (c_rr_no hb) rfl (by omega) (Nat.le_of_ble_eq_true rfl) (Nat.le_of_ble_eq_true rfl) (Nat.le_of_ble_eq_true rfl) rfl rfl (by simp) ?_
  exact ⟨rfl, rfl⟩
theorem m_most_ok {i : Nat} {a : Int32} (hi' : i < n) (hn : n < 5) (hb : ¬ (a < 0 ∨ 30 < a)) : tk_M y_CP_most w_CP_most 10 1 6 [.ref 0, .int (nI i), .int a] (wd g (nI n, lo, hi, ls, hs, mb, pc, bd) p c t) (tk_det (.inl none) (wd g (nI n, lo, hi, ls, hs, upd mb i a, pc, bd) p c t)) := by
  refine tk_M.of (lv := [some (.ref 0), some (.int (nI i)), some (.int a)]) (by decide) (Nat.le_of_ble_eq_true rfl) rfl ?_
  refine tk_iload_n (pc := 0) d_CP_most_0 rfl ?_
  refine tk_aload_n (pc := 1) d_CP_most_1 rfl ?_
  refine tk_get (pc := 2) d_CP_most_2 f_CP_19 rfl rfl ?_
  refine tk_get (pc := 5) d_CP_most_5 f_CP_81 rfl rfl ?_
  refine tk_callSr (pc := 8) d_CP_most_8 l_CP_54 k_CP_requireIndex (c_ri_ok (nI_pos (by omega)) (nI_lt hi' (by omega))) rfl (by omega) (Nat.le_of_ble_eq_true rfl) (Nat.le_of_ble_eq_true rfl) (Nat.le_of_ble_eq_true rfl) rfl rfl ?_
  refine tk_iload_n (pc := 11) d_CP_most_11 rfl ?_
  refine tk_iconst (pc := 12) (v := 0) d_CP_most_12 (by decide) ?_
  refine tk_bipush (pc := 13) (v := 30) d_CP_most_13 (by decide) ?_
  refine tk_callSr (pc := 15) d_CP_most_15 l_CP_45 k_CP_requireRange (c_rr_ok (fun z => hb (Or.inl z)) (fun z => hb (Or.inr z))) rfl (by omega) (Nat.le_of_ble_eq_true rfl) (Nat.le_of_ble_eq_true rfl) (Nat.le_of_ble_eq_true rfl) rfl rfl ?_
  refine tk_aload_n (pc := 18) d_CP_most_18 rfl ?_
  refine tk_get (pc := 19) d_CP_most_19 f_CP_19 rfl rfl ?_
  refine tk_get (pc := 22) d_CP_most_22 f_CP_87 rfl rfl ?_
  refine tk_iload_n (pc := 25) d_CP_most_25 rfl ?_
  refine tk_iload_n (pc := 26) d_CP_most_26 rfl ?_
  refine tk_iast (pc := 27) i d_CP_most_27 rfl rfl (by omega) (by decide) ?_
  exact tk_return (pc := 28) d_CP_most_28 rfl (Nat.le_of_ble_eq_true rfl) (Nat.le_of_ble_eq_true rfl) ⟨rfl, rfl⟩
end PUB2
