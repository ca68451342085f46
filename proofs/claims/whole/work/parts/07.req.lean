/-! ===== the checks ===== -/
theorem c_ri_ok {i n : Int32} {w : tk_W} (h0 : ¬ i < 0) (h1 : i < n) : tk_M y_CP_requireIndex w_CP_requireIndex 0 0 0 [.int i, .int n] w (tk_det (.inl none) w) := by
  refine tk_M.of (lv := [some (.int i), some (.int n)]) (by decide) (Nat.le_of_ble_eq_true rfl) rfl ?_
  refine tk_iload_n (pc := 0) d_CP_requireIndex_0 rfl ?_
  refine tk_if_lt (pc := 1) (tgt := 9) d_CP_requireIndex_1 (by decide) (fun hb => ?_) (fun hb => ?_)
  · exact absurd hb h0
  refine tk_iload_n (pc := 4) d_CP_requireIndex_4 rfl ?_
  refine tk_iload_n (pc := 5) d_CP_requireIndex_5 rfl ?_
  refine tk_icmp_lt (pc := 6) (tgt := 19) d_CP_requireIndex_6 (by decide) (fun hb => ?_) (fun hb => ?_)
  · exact tk_return (pc := 19) d_CP_requireIndex_19 rfl (Nat.le_of_ble_eq_true rfl) (Nat.le_of_ble_eq_true rfl) ⟨rfl, rfl⟩
  · exact absurd h1 hb
theorem c_ri_no {i n : Int32} {w : tk_W} (h : i < 0 ∨ ¬ i < n) : tk_M y_CP_requireIndex w_CP_requireIndex 0 1 6 [.int i, .int n] w (tk_det (.inr eI) w) := by
  refine tk_M.of (lv := [some (.int i), some (.int n)]) (by decide) (Nat.le_of_ble_eq_true rfl) rfl ?_
  refine tk_iload_n (pc := 0) d_CP_requireIndex_0 rfl ?_
  refine tk_if_lt (pc := 1) (tgt := 9) d_CP_requireIndex_1 (by decide) (fun hb => ?_) (fun hb => ?_)
  · exact tk_throw (pc := 9) d_CP_requireIndex_9 d_CP_requireIndex_12 d_CP_requireIndex_13 d_CP_requireIndex_15 d_CP_requireIndex_18 x_CP_requireIndex (by simp) (Nat.le_of_ble_eq_true rfl) (Nat.le_of_ble_eq_true rfl) (Nat.le_of_ble_eq_true rfl) ⟨rfl, rfl⟩
  refine tk_iload_n (pc := 4) d_CP_requireIndex_4 rfl ?_
  refine tk_iload_n (pc := 5) d_CP_requireIndex_5 rfl ?_
  refine tk_icmp_lt (pc := 6) (tgt := 19) d_CP_requireIndex_6 (by decide) (fun hc => ?_) (fun hc => ?_)
  · exact absurd hc (h.elim (fun z => absurd z hb) id)
  · exact tk_throw (pc := 9) d_CP_requireIndex_9 d_CP_requireIndex_12 d_CP_requireIndex_13 d_CP_requireIndex_15 d_CP_requireIndex_18 x_CP_requireIndex (by simp) (Nat.le_of_ble_eq_true rfl) (Nat.le_of_ble_eq_true rfl) (Nat.le_of_ble_eq_true rfl) ⟨rfl, rfl⟩
theorem c_rt_ok {b : Int32} {w : tk_W} (h : ¬ b = 0) : tk_M y_CP_requireTurn w_CP_requireTurn 0 0 0 [.int b] w (tk_det (.inl none) w) := by
  refine tk_M.of (lv := [some (.int b)]) (by decide) (Nat.le_of_ble_eq_true rfl) rfl ?_
  refine tk_iload_n (pc := 0) d_CP_requireTurn_0 rfl ?_
  refine tk_if_ne (pc := 1) (tgt := 14) d_CP_requireTurn_1 (by decide) (fun hb => ?_) (fun hb => ?_)
  · exact tk_return (pc := 14) d_CP_requireTurn_14 rfl (Nat.le_of_ble_eq_true rfl) (Nat.le_of_ble_eq_true rfl) ⟨rfl, rfl⟩
  · exact absurd hb h
theorem c_rt_no {w : tk_W} : tk_M y_CP_requireTurn w_CP_requireTurn 0 1 6 [.int 0] w (tk_det (.inr eS) w) := by
  refine tk_M.of (lv := [some (.int 0)]) (by decide) (Nat.le_of_ble_eq_true rfl) rfl ?_
  refine tk_iload_n (pc := 0) d_CP_requireTurn_0 rfl ?_
  refine tk_if_ne (pc := 1) (tgt := 14) d_CP_requireTurn_1 (by decide) (fun hb => ?_) (fun hb => ?_)
  · exact absurd rfl hb
  · exact tk_throw (pc := 4) d_CP_requireTurn_4 d_CP_requireTurn_7 d_CP_requireTurn_8 d_CP_requireTurn_10 d_CP_requireTurn_13 x_CP_requireTurn (by simp) (Nat.le_of_ble_eq_true rfl) (Nat.le_of_ble_eq_true rfl) (Nat.le_of_ble_eq_true rfl) ⟨rfl, rfl⟩
theorem c_ra_ok {b : Int32} {w : tk_W} (h : ¬ b = 0) : tk_M y_CP_requireArgument w_CP_requireArgument 0 0 0 [.int b] w (tk_det (.inl none) w) := by
  refine tk_M.of (lv := [some (.int b)]) (by decide) (Nat.le_of_ble_eq_true rfl) rfl ?_
  refine tk_iload_n (pc := 0) d_CP_requireArgument_0 rfl ?_
  refine tk_if_ne (pc := 1) (tgt := 14) d_CP_requireArgument_1 (by decide) (fun hb => ?_) (fun hb => ?_)
  · exact tk_return (pc := 14) d_CP_requireArgument_14 rfl (Nat.le_of_ble_eq_true rfl) (Nat.le_of_ble_eq_true rfl) ⟨rfl, rfl⟩
  · exact absurd hb h
theorem c_ra_no {w : tk_W} : tk_M y_CP_requireArgument w_CP_requireArgument 0 1 6 [.int 0] w (tk_det (.inr eA) w) := by
  refine tk_M.of (lv := [some (.int 0)]) (by decide) (Nat.le_of_ble_eq_true rfl) rfl ?_
  refine tk_iload_n (pc := 0) d_CP_requireArgument_0 rfl ?_
  refine tk_if_ne (pc := 1) (tgt := 14) d_CP_requireArgument_1 (by decide) (fun hb => ?_) (fun hb => ?_)
  · exact absurd rfl hb
  · exact tk_throw (pc := 4) d_CP_requireArgument_4 d_CP_requireArgument_7 d_CP_requireArgument_8 d_CP_requireArgument_10 d_CP_requireArgument_13 x_CP_requireArgument (by simp) (Nat.le_of_ble_eq_true rfl) (Nat.le_of_ble_eq_true rfl) (Nat.le_of_ble_eq_true rfl) ⟨rfl, rfl⟩
theorem c_rm_ok {b : Int32} {w : tk_W} (h : ¬ b = 0) : tk_M y_CP_requireMeaning w_CP_requireMeaning 0 0 0 [.int b] w (tk_det (.inl none) w) := by
  refine tk_M.of (lv := [some (.int b)]) (by decide) (Nat.le_of_ble_eq_true rfl) rfl ?_
  refine tk_iload_n (pc := 0) d_CP_requireMeaning_0 rfl ?_
  refine tk_if_ne (pc := 1) (tgt := 14) d_CP_requireMeaning_1 (by decide) (fun hb => ?_) (fun hb => ?_)
  · exact tk_return (pc := 14) d_CP_requireMeaning_14 rfl (Nat.le_of_ble_eq_true rfl) (Nat.le_of_ble_eq_true rfl) ⟨rfl, rfl⟩
  · exact absurd hb h
theorem c_rm_no {w : tk_W} : tk_M y_CP_requireMeaning w_CP_requireMeaning 0 1 6 [.int 0] w (tk_det (.inr eU) w) := by
  refine tk_M.of (lv := [some (.int 0)]) (by decide) (Nat.le_of_ble_eq_true rfl) rfl ?_
  refine tk_iload_n (pc := 0) d_CP_requireMeaning_0 rfl ?_
  refine tk_if_ne (pc := 1) (tgt := 14) d_CP_requireMeaning_1 (by decide) (fun hb => ?_) (fun hb => ?_)
  · exact absurd rfl hb
  · exact tk_throw (pc := 4) d_CP_requireMeaning_4 d_CP_requireMeaning_7 d_CP_requireMeaning_8 d_CP_requireMeaning_10 d_CP_requireMeaning_13 x_CP_requireMeaning (by simp) (Nat.le_of_ble_eq_true rfl) (Nat.le_of_ble_eq_true rfl) (Nat.le_of_ble_eq_true rfl) ⟨rfl, rfl⟩
theorem c_rr_ok {v a b : Int32} {w : tk_W} (h0 : ¬ v < a) (h1 : ¬ b < v) : tk_M y_CP_requireRange w_CP_requireRange 1 0 0 [.int v, .int a, .int b] w (tk_det (.inl none) w) := by
  refine tk_M.of (lv := [some (.int v), some (.int a), some (.int b)]) (by decide) (Nat.le_of_ble_eq_true rfl) rfl ?_
  refine tk_iload_n (pc := 0) d_CP_requireRange_0 rfl ?_
  refine tk_iload_n (pc := 1) d_CP_requireRange_1 rfl ?_
  refine tk_icmp_lt (pc := 2) (tgt := 14) d_CP_requireRange_2 (by decide) (fun hb => ?_) (fun hb => ?_)
  · exact absurd hb h0
  refine tk_iload_n (pc := 5) d_CP_requireRange_5 rfl ?_
  refine tk_iload_n (pc := 6) d_CP_requireRange_6 rfl ?_
  refine tk_icmp_gt (pc := 7) (tgt := 14) d_CP_requireRange_7 (by decide) (fun hb => ?_) (fun hb => ?_)
  · exact absurd hb h1
  refine tk_iconst (pc := 10) (v := 1) d_CP_requireRange_10 (by decide) ?_
  refine tk_goto (pc := 11) (tgt := 15) d_CP_requireRange_11 (by decide) ?_
  refine tk_callSr (pc := 15) d_CP_requireRange_15 l_CP_72 k_CP_requireArgument (c_ra_ok (b := 1) (by decide)) rfl (Nat.le_of_ble_eq_true rfl) (Nat.le_of_ble_eq_true rfl) (Nat.le_of_ble_eq_true rfl) (Nat.le_of_ble_eq_true rfl) rfl rfl ?_
  exact tk_return (pc := 18) d_CP_requireRange_18 rfl (Nat.le_of_ble_eq_true rfl) (Nat.le_of_ble_eq_true rfl) ⟨rfl, rfl⟩
theorem c_rr_no {v a b : Int32} {w : tk_W} (h : v < a ∨ b < v) : tk_M y_CP_requireRange w_CP_requireRange 1 1 6 [.int v, .int a, .int b] w (tk_det (.inr eA) w) := by
  refine tk_M.of (lv := [some (.int v), some (.int a), some (.int b)]) (by decide) (Nat.le_of_ble_eq_true rfl) rfl ?_
  refine tk_iload_n (pc := 0) d_CP_requireRange_0 rfl ?_
  refine tk_iload_n (pc := 1) d_CP_requireRange_1 rfl ?_
  refine tk_icmp_lt (pc := 2) (tgt := 14) d_CP_requireRange_2 (by decide) (fun hb => ?_) (fun hb => ?_)
  · refine tk_iconst (pc := 14) (v := 0) d_CP_requireRange_14 (by decide) ?_
    refine tk_callSx (pc := 15) d_CP_requireRange_15 l_CP_72 k_CP_requireArgument (c_ra_no) rfl (Nat.le_of_ble_eq_true rfl) (Nat.le_of_ble_eq_true rfl) (Nat.le_of_ble_eq_true rfl) (Nat.le_of_ble_eq_true rfl) rfl rfl (by simp) ?_
    exact ⟨rfl, rfl⟩
  refine tk_iload_n (pc := 5) d_CP_requireRange_5 rfl ?_
  refine tk_iload_n (pc := 6) d_CP_requireRange_6 rfl ?_
  refine tk_icmp_gt (pc := 7) (tgt := 14) d_CP_requireRange_7 (by decide) (fun hc => ?_) (fun hc => ?_)
  · refine tk_iconst (pc := 14) (v := 0) d_CP_requireRange_14 (by decide) ?_
    refine tk_callSx (pc := 15) d_CP_requireRange_15 l_CP_72 k_CP_requireArgument (c_ra_no) rfl (Nat.le_of_ble_eq_true rfl) (Nat.le_of_ble_eq_true rfl) (Nat.le_of_ble_eq_true rfl) (Nat.le_of_ble_eq_true rfl) rfl rfl (by simp) ?_
    exact ⟨rfl, rfl⟩
  · exact absurd (h.elim (fun z => absurd z hb) id) hc
theorem c_rs_ok {u v a b : Int32} {w : tk_W} (h0 : ¬ u < a) (h1 : ¬ b < u) (h2 : ¬ v < u) (h3 : ¬ b < v) : tk_M y_CP_requireSpan w_CP_requireSpan 2 0 0 [.int u, .int v, .int a, .int b] w (tk_det (.inl none) w) := by
  refine tk_M.of (lv := [some (.int u), some (.int v), some (.int a), some (.int b)]) (by decide) (Nat.le_of_ble_eq_true rfl) rfl ?_
  refine tk_iload_n (pc := 0) d_CP_requireSpan_0 rfl ?_
  refine tk_iload_n (pc := 1) d_CP_requireSpan_1 rfl ?_
  refine tk_iload_n (pc := 2) d_CP_requireSpan_2 rfl ?_
  refine tk_callSr (pc := 3) d_CP_requireSpan_3 l_CP_45 k_CP_requireRange (c_rr_ok h0 h1) rfl (Nat.le_of_ble_eq_true rfl) (Nat.le_of_ble_eq_true rfl) (Nat.le_of_ble_eq_true rfl) (Nat.le_of_ble_eq_true rfl) rfl rfl ?_
  refine tk_iload_n (pc := 6) d_CP_requireSpan_6 rfl ?_
  refine tk_iload_n (pc := 7) d_CP_requireSpan_7 rfl ?_
  refine tk_iload_n (pc := 8) d_CP_requireSpan_8 rfl ?_
  refine tk_callSr (pc := 9) d_CP_requireSpan_9 l_CP_45 k_CP_requireRange (c_rr_ok h2 h3) rfl (Nat.le_of_ble_eq_true rfl) (Nat.le_of_ble_eq_true rfl) (Nat.le_of_ble_eq_true rfl) (Nat.le_of_ble_eq_true rfl) rfl rfl ?_
  exact tk_return (pc := 12) d_CP_requireSpan_12 rfl (Nat.le_of_ble_eq_true rfl) (Nat.le_of_ble_eq_true rfl) ⟨rfl, rfl⟩
theorem c_rs_no {u v a b : Int32} {w : tk_W} (h : (u < a ∨ b < u) ∨ (v < u ∨ b < v)) : tk_M y_CP_requireSpan w_CP_requireSpan 2 1 6 [.int u, .int v, .int a, .int b] w (tk_det (.inr eA) w) := by
  refine tk_M.of (lv := [some (.int u), some (.int v), some (.int a), some (.int b)]) (by decide) (Nat.le_of_ble_eq_true rfl) rfl ?_
  refine tk_iload_n (pc := 0) d_CP_requireSpan_0 rfl ?_
  refine tk_iload_n (pc := 1) d_CP_requireSpan_1 rfl ?_
  refine tk_iload_n (pc := 2) d_CP_requireSpan_2 rfl ?_
  by_cases h1 : u < a ∨ b < u
  · refine tk_callSx (pc := 3) d_CP_requireSpan_3 l_CP_45 k_CP_requireRange (c_rr_no h1) rfl (Nat.le_of_ble_eq_true rfl) (Nat.le_of_ble_eq_true rfl) (Nat.le_of_ble_eq_true rfl) (Nat.le_of_ble_eq_true rfl) rfl rfl (by simp) ?_
    exact ⟨rfl, rfl⟩
  · have h2 := h.resolve_left h1
    refine tk_callSr (pc := 3) d_CP_requireSpan_3 l_CP_45 k_CP_requireRange (c_rr_ok (fun z => h1 (Or.inl z)) (fun z => h1 (Or.inr z))) rfl (Nat.le_of_ble_eq_true rfl) (Nat.le_of_ble_eq_true rfl) (Nat.le_of_ble_eq_true rfl) (Nat.le_of_ble_eq_true rfl) rfl rfl ?_
    refine tk_iload_n (pc := 6) d_CP_requireSpan_6 rfl ?_
    refine tk_iload_n (pc := 7) d_CP_requireSpan_7 rfl ?_
    refine tk_iload_n (pc := 8) d_CP_requireSpan_8 rfl ?_
    refine tk_callSx (pc := 9) d_CP_requireSpan_9 l_CP_45 k_CP_requireRange (c_rr_no h2) rfl (Nat.le_of_ble_eq_true rfl) (Nat.le_of_ble_eq_true rfl) (Nat.le_of_ble_eq_true rfl) (Nat.le_of_ble_eq_true rfl) rfl rfl (by simp) ?_
    exact ⟨rfl, rfl⟩
/-! ===== goods ===== -/
theorem m_G_append {h : sH} {p : sP} {c : sC} {t : tk_W} {gk gc gs gl ga gb : Ar} {n : Nat} {k ct s : Int32} (hn : n < 5) : tk_M y_G_append w_G_append 0 0 0 [.ref 1, .int k, .int ct, .int s] (wd (nI n, gk, gc, gs, gl, ga, gb) h p c t) (tk_det (.inl (some (.int (nI n)))) (wd (nI (n + 1), upd gk n k, upd gc n ct, upd gs n s, upd gl n 6, ga, gb) h p c t)) := by
  refine tk_M.of (lv := [some (.ref 1), some (.int k), some (.int ct), some (.int s), none]) (by decide) (Nat.le_of_ble_eq_true rfl) rfl ?_
  refine tk_aload_n (pc := 0) d_G_append_0 rfl ?_
  refine tk_get (pc := 1) d_G_append_1 f_G_30 rfl rfl ?_
  refine tk_istore4 (pc := 4) d_G_append_4 rfl (by decide) ?_
  refine tk_aload_n (pc := 6) d_G_append_6 rfl ?_
  refine tk_get (pc := 7) d_G_append_7 f_G_9 rfl rfl ?_
  refine tk_iload (pc := 10) d_G_append_10 rfl ?_
  refine tk_iload_n (pc := 12) d_G_append_12 rfl ?_
  refine tk_iast (pc := 13) n d_G_append_13 rfl rfl hn (by decide) ?_
  refine tk_aload_n (pc := 14) d_G_append_14 rfl ?_
  refine tk_get (pc := 15) d_G_append_15 f_G_15 rfl rfl ?_
  refine tk_iload (pc := 18) d_G_append_18 rfl ?_
  refine tk_iload_n (pc := 20) d_G_append_20 rfl ?_
  refine tk_iast (pc := 21) n d_G_append_21 rfl rfl hn (by decide) ?_
  refine tk_aload_n (pc := 22) d_G_append_22 rfl ?_
  refine tk_get (pc := 23) d_G_append_23 f_G_18 rfl rfl ?_
  refine tk_iload (pc := 26) d_G_append_26 rfl ?_
  refine tk_iload_n (pc := 28) d_G_append_28 rfl ?_
  refine tk_iast (pc := 29) n d_G_append_29 rfl rfl hn (by decide) ?_
  refine tk_aload_n (pc := 30) d_G_append_30 rfl ?_
  refine tk_get (pc := 31) d_G_append_31 f_G_21 rfl rfl ?_
  refine tk_iload (pc := 34) d_G_append_34 rfl ?_
  refine tk_bipush (pc := 36) (v := 6) d_G_append_36 (by decide) ?_
  refine tk_iast (pc := 38) n d_G_append_38 rfl rfl hn (by decide) ?_
  refine tk_aload_n (pc := 39) d_G_append_39 rfl ?_
  refine tk_dup (pc := 40) d_G_append_40 rfl ?_
  refine tk_get (pc := 41) d_G_append_41 f_G_30 rfl rfl ?_
  refine tk_iconst (pc := 44) (v := 1) d_G_append_44 (by decide) ?_
  refine tk_iadd (pc := 45) d_G_append_45 ?_
  refine tk_put (pc := 46) d_G_append_46 f_G_30 p_G_0 rfl rfl rfl (Nat.le_of_ble_eq_true rfl) rfl ?_
  refine tk_iload (pc := 49) d_G_append_49 rfl ?_
  exact tk_ireturn (pc := 51) d_G_append_51 rfl rfl (Nat.le_of_ble_eq_true rfl) (Nat.le_of_ble_eq_true rfl) ⟨rfl, by rw [← nI_1]; rfl⟩
