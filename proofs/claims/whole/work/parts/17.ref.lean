/-! ===== the reference: goods and heats ===== -/
section REF2
variable {g : sG} {h : sH} {p : sP} {c : sC} {th gn : Int32} {mk mc ms ml ma mb : Ar} {hn : Int32} {le gr mo hl hu pc pl : Ar} {aq sp st : Int32} {nw br : Ar} {o : Nat → Int64} {n : Nat}
theorem r_good_1 {k ct s : Int32} : tk_M y_M_good w_M_good 10 0 0 [.ref 29, .int k, .int ct, .int s] (wd g h p c (md th (nI 5) mk mc ms ml ma mb hn le gr mo hl hu pc pl aq sp st nw br o)) (tk_det (.inl (some (.int 0))) (wd g h p c (md 1 (nI 5) mk mc ms ml ma mb hn le gr mo hl hu pc pl aq sp st nw br o))) := by
  refine tk_M.of (lv := [some (.ref 29), some (.int k), some (.int ct), some (.int s)]) (by decide) (Nat.le_of_ble_eq_true rfl) rfl ?_
  have tail : ∀ v : Int32, tk_T y_M_good c_M_good 4 (some .int) [] 10 0 0 (fun _ => none) 0 0 (tk_det (.inl (some (.int 0))) (wd g h p c (md 1 (nI 5) mk mc ms ml ma mb hn le gr mo hl hu pc pl aq sp st nw br o))) 55 [some (.ref 29), some (.int k), some (.int ct), some (.int s)] [.int v, .int 1, .ref 29] (wd g h p c (md th (nI 5) mk mc ms ml ma mb hn le gr mo hl hu pc pl aq sp st nw br o)) := by
    intro v
    refine tk_iconst (pc := 55) (v := 0) d_M_good_55 (by decide) ?_
    refine tk_callVr (pc := 56) d_M_good_56 l_M_76 k_M_throwing rfl rfl rfl (m_t1 (y := v) (z := 0)) rfl (by omega) (Nat.le_of_ble_eq_true rfl) (Nat.le_of_ble_eq_true rfl) (Nat.le_of_ble_eq_true rfl) rfl rfl ?_
    refine tk_if_eq (pc := 59) (tgt := 64) d_M_good_59 (by decide) (fun hb => ?_) (fun hb => ?_)
    · exact absurd hb (by decide)
    refine tk_iconst (pc := 62) (v := 0) d_M_good_62 (by decide) ?_
    exact tk_ireturn (pc := 63) d_M_good_63 rfl rfl (Nat.le_of_ble_eq_true rfl) (Nat.le_of_ble_eq_true rfl) ⟨rfl, rfl⟩
  refine tk_aload_n (pc := 0) d_M_good_0 rfl ?_
  refine tk_aload_n (pc := 1) d_M_good_1 rfl ?_
  refine tk_get (pc := 2) d_M_good_2 f_M_60 rfl rfl ?_
  refine tk_iconst (pc := 5) (v := 5) d_M_good_5 (by decide) ?_
  refine tk_icmp_ne (pc := 6) (tgt := 13) d_M_good_6 (by decide) (fun hb => ?_) (fun hb => ?_)
  · exact absurd (show nI 5 = 5 from rfl) hb
  refine tk_iconst (pc := 9) (v := 1) d_M_good_9 (by decide) ?_
  refine tk_goto (pc := 10) (tgt := 14) d_M_good_10 (by decide) ?_
  refine tk_iload_n (pc := 14) d_M_good_14 rfl ?_
  refine tk_i2l (pc := 15) d_M_good_15 ?_
  refine tk_lconst (pc := 16) (v := 1) d_M_good_16 (by decide) ?_
  refine tk_ldc2 (pc := 17) d_M_good_17 q_M_70 ?_
  refine tk_callSr (pc := 20) d_M_good_20 l_M_63 k_M_in (m_inI (x := k) (lo := 1) (hi := 1000) rfl rfl) rfl (by omega) (Nat.le_of_ble_eq_true rfl) (Nat.le_of_ble_eq_true rfl) (Nat.le_of_ble_eq_true rfl) rfl rfl ?_
  refine tk_if_eq (pc := 23) (tgt := 50) d_M_good_23 (by decide) (fun hb => ?_) (fun hb => ?_)
  · refine tk_iconst (pc := 50) (v := 1) d_M_good_50 (by decide) ?_
    refine tk_goto (pc := 51) (tgt := 55) d_M_good_51 (by decide) ?_
    exact tail 1
  refine tk_iload_n (pc := 26) d_M_good_26 rfl ?_
  refine tk_i2l (pc := 27) d_M_good_27 ?_
  refine tk_lconst (pc := 28) (v := 0) d_M_good_28 (by decide) ?_
  refine tk_ldc2 (pc := 29) d_M_good_29 q_M_72 ?_
  refine tk_callSr (pc := 32) d_M_good_32 l_M_63 k_M_in (m_inI (x := ct) (lo := 0) (hi := 100000) rfl rfl) rfl (by omega) (Nat.le_of_ble_eq_true rfl) (Nat.le_of_ble_eq_true rfl) (Nat.le_of_ble_eq_true rfl) rfl rfl ?_
  refine tk_if_eq (pc := 35) (tgt := 50) d_M_good_35 (by decide) (fun hb => ?_) (fun hb => ?_)
  · refine tk_iconst (pc := 50) (v := 1) d_M_good_50 (by decide) ?_
    refine tk_goto (pc := 51) (tgt := 55) d_M_good_51 (by decide) ?_
    exact tail 1
  refine tk_iload_n (pc := 38) d_M_good_38 rfl ?_
  refine tk_i2l (pc := 39) d_M_good_39 ?_
  refine tk_lconst (pc := 40) (v := 0) d_M_good_40 (by decide) ?_
  refine tk_ldc2 (pc := 41) d_M_good_41 q_M_74 ?_
  refine tk_callSr (pc := 44) d_M_good_44 l_M_63 k_M_in (m_inI (x := s) (lo := 0) (hi := 6) rfl rfl) rfl (by omega) (Nat.le_of_ble_eq_true rfl) (Nat.le_of_ble_eq_true rfl) (Nat.le_of_ble_eq_true rfl) rfl rfl ?_
  refine tk_if_ne (pc := 47) (tgt := 54) d_M_good_47 (by decide) (fun hb => ?_) (fun hb => ?_)
  · refine tk_iconst (pc := 54) (v := 0) d_M_good_54 (by decide) ?_
    exact tail 0
  · refine tk_iconst (pc := 50) (v := 1) d_M_good_50 (by decide) ?_
    refine tk_goto (pc := 51) (tgt := 55) d_M_good_51 (by decide) ?_
    exact tail 1
theorem r_good_2 {k ct s : Int32} (hn' : n < 5) (hbad : (k < 1 ∨ 1000 < k) ∨ (ct < 0 ∨ 100000 < ct) ∨ (s < 0 ∨ 6 < s)) : tk_M y_M_good w_M_good 10 0 0 [.ref 29, .int k, .int ct, .int s] (wd g h p c (md th (nI n) mk mc ms ml ma mb hn le gr mo hl hu pc pl aq sp st nw br o)) (tk_det (.inl (some (.int 0))) (wd g h p c (md 2 (nI n) mk mc ms ml ma mb hn le gr mo hl hu pc pl aq sp st nw br o))) := by
  refine tk_M.of (lv := [some (.ref 29), some (.int k), some (.int ct), some (.int s)]) (by decide) (Nat.le_of_ble_eq_true rfl) rfl ?_
  have tail : tk_T y_M_good c_M_good 4 (some .int) [] 10 0 0 (fun _ => none) 0 0 (tk_det (.inl (some (.int 0))) (wd g h p c (md 2 (nI n) mk mc ms ml ma mb hn le gr mo hl hu pc pl aq sp st nw br o))) 50 [some (.ref 29), some (.int k), some (.int ct), some (.int s)] [.int 0, .ref 29] (wd g h p c (md th (nI n) mk mc ms ml ma mb hn le gr mo hl hu pc pl aq sp st nw br o)) := by
    refine tk_iconst (pc := 50) (v := 1) d_M_good_50 (by decide) ?_
    refine tk_goto (pc := 51) (tgt := 55) d_M_good_51 (by decide) ?_
    refine tk_iconst (pc := 55) (v := 0) d_M_good_55 (by decide) ?_
    refine tk_callVr (pc := 56) d_M_good_56 l_M_76 k_M_throwing rfl rfl rfl (m_t2 (z := 0)) rfl (by omega) (Nat.le_of_ble_eq_true rfl) (Nat.le_of_ble_eq_true rfl) (Nat.le_of_ble_eq_true rfl) rfl rfl ?_
    refine tk_if_eq (pc := 59) (tgt := 64) d_M_good_59 (by decide) (fun hb => ?_) (fun hb => ?_)
    · exact absurd hb (by decide)
    refine tk_iconst (pc := 62) (v := 0) d_M_good_62 (by decide) ?_
    exact tk_ireturn (pc := 63) d_M_good_63 rfl rfl (Nat.le_of_ble_eq_true rfl) (Nat.le_of_ble_eq_true rfl) ⟨rfl, rfl⟩
  refine tk_aload_n (pc := 0) d_M_good_0 rfl ?_
  refine tk_aload_n (pc := 1) d_M_good_1 rfl ?_
  refine tk_get (pc := 2) d_M_good_2 f_M_60 rfl rfl ?_
  refine tk_iconst (pc := 5) (v := 5) d_M_good_5 (by decide) ?_
  refine tk_icmp_ne (pc := 6) (tgt := 13) d_M_good_6 (by decide) (fun hb => ?_) (fun hb => ?_)
  · refine tk_iconst (pc := 13) (v := 0) d_M_good_13 (by decide) ?_
    refine tk_iload_n (pc := 14) d_M_good_14 rfl ?_
    refine tk_i2l (pc := 15) d_M_good_15 ?_
    refine tk_lconst (pc := 16) (v := 1) d_M_good_16 (by decide) ?_
    refine tk_ldc2 (pc := 17) d_M_good_17 q_M_70 ?_
    by_cases h1 : k < 1 ∨ 1000 < k
    · refine tk_callSr (pc := 20) d_M_good_20 l_M_63 k_M_in (m_in_no (x := k) (lo := 1) (hi := 1000) rfl rfl h1) rfl (by omega) (Nat.le_of_ble_eq_true rfl) (Nat.le_of_ble_eq_true rfl) (Nat.le_of_ble_eq_true rfl) rfl rfl ?_
      refine tk_if_eq (pc := 23) (tgt := 50) d_M_good_23 (by decide) (fun hc => ?_) (fun hc => ?_)
      · exact tail
      · exact absurd rfl hc
    refine tk_callSr (pc := 20) d_M_good_20 l_M_63 k_M_in (m_in_yes (x := k) (lo := 1) (hi := 1000) rfl rfl h1) rfl (by omega) (Nat.le_of_ble_eq_true rfl) (Nat.le_of_ble_eq_true rfl) (Nat.le_of_ble_eq_true rfl) rfl rfl ?_
    refine tk_if_eq (pc := 23) (tgt := 50) d_M_good_23 (by decide) (fun hc => ?_) (fun hc => ?_)
    · exact absurd hc (by decide)
    refine tk_iload_n (pc := 26) d_M_good_26 rfl ?_
    refine tk_i2l (pc := 27) d_M_good_27 ?_
    refine tk_lconst (pc := 28) (v := 0) d_M_good_28 (by decide) ?_
    refine tk_ldc2 (pc := 29) d_M_good_29 q_M_72 ?_
    by_cases h2 : ct < 0 ∨ 100000 < ct
    · refine tk_callSr (pc := 32) d_M_good_32 l_M_63 k_M_in (m_in_no (x := ct) (lo := 0) (hi := 100000) rfl rfl h2) rfl (by omega) (Nat.le_of_ble_eq_true rfl) (Nat.le_of_ble_eq_true rfl) (Nat.le_of_ble_eq_true rfl) rfl rfl ?_
      refine tk_if_eq (pc := 35) (tgt := 50) d_M_good_35 (by decide) (fun hc => ?_) (fun hc => ?_)
      · exact tail
      · exact absurd rfl hc
    refine tk_callSr (pc := 32) d_M_good_32 l_M_63 k_M_in (m_in_yes (x := ct) (lo := 0) (hi := 100000) rfl rfl h2) rfl (by omega) (Nat.le_of_ble_eq_true rfl) (Nat.le_of_ble_eq_true rfl) (Nat.le_of_ble_eq_true rfl) rfl rfl ?_
    refine tk_if_eq (pc := 35) (tgt := 50) d_M_good_35 (by decide) (fun hc => ?_) (fun hc => ?_)
    · exact absurd hc (by decide)
    refine tk_iload_n (pc := 38) d_M_good_38 rfl ?_
    refine tk_i2l (pc := 39) d_M_good_39 ?_
    refine tk_lconst (pc := 40) (v := 0) d_M_good_40 (by decide) ?_
    refine tk_ldc2 (pc := 41) d_M_good_41 q_M_74 ?_
    refine tk_callSr (pc := 44) d_M_good_44 l_M_63 k_M_in (m_in_no (x := s) (lo := 0) (hi := 6) rfl rfl ((hbad.resolve_left h1).resolve_left h2)) rfl (by omega) (Nat.le_of_ble_eq_true rfl) (Nat.le_of_ble_eq_true rfl) (Nat.le_of_ble_eq_true rfl) rfl rfl ?_
    refine tk_if_ne (pc := 47) (tgt := 54) d_M_good_47 (by decide) (fun hc => ?_) (fun hc => ?_)
    · exact absurd rfl hc
    · exact tail
  · exact absurd ((nI_eq (b := 5) (by omega) (by omega)).mp hb) (by omega)
theorem r_good_0 {k ct s : Int32} (hn' : n < 5) (h1 : ¬ (k < 1 ∨ 1000 < k)) (h2 : ¬ (ct < 0 ∨ 100000 < ct)) (h3 : ¬ (s < 0 ∨ 6 < s)) : tk_M y_M_good w_M_good 10 0 0 [.ref 29, .int k, .int ct, .int s] (wd g h p c (md th (nI n) mk mc ms ml ma mb hn le gr mo hl hu pc pl aq sp st nw br o)) (tk_det (.inl (some (.int (nI n)))) (wd g h p c (md 0 (nI (n + 1)) (upd mk n k) (upd mc n ct) (upd ms n s) (upd ml n 6) ma mb hn le gr mo hl hu pc pl aq sp st nw br o))) := by
  refine tk_M.of (lv := [some (.ref 29), some (.int k), some (.int ct), some (.int s)]) (by decide) (Nat.le_of_ble_eq_true rfl) rfl ?_
  refine tk_aload_n (pc := 0) d_M_good_0 rfl ?_
  refine tk_aload_n (pc := 1) d_M_good_1 rfl ?_
  refine tk_get (pc := 2) d_M_good_2 f_M_60 rfl rfl ?_
  refine tk_iconst (pc := 5) (v := 5) d_M_good_5 (by decide) ?_
  refine tk_icmp_ne (pc := 6) (tgt := 13) d_M_good_6 (by decide) (fun hb => ?_) (fun hb => ?_)
  · refine tk_iconst (pc := 13) (v := 0) d_M_good_13 (by decide) ?_
    refine tk_iload_n (pc := 14) d_M_good_14 rfl ?_
    refine tk_i2l (pc := 15) d_M_good_15 ?_
    refine tk_lconst (pc := 16) (v := 1) d_M_good_16 (by decide) ?_
    refine tk_ldc2 (pc := 17) d_M_good_17 q_M_70 ?_
    refine tk_callSr (pc := 20) d_M_good_20 l_M_63 k_M_in (m_in_yes (x := k) (lo := 1) (hi := 1000) rfl rfl h1) rfl (by omega) (Nat.le_of_ble_eq_true rfl) (Nat.le_of_ble_eq_true rfl) (Nat.le_of_ble_eq_true rfl) rfl rfl ?_
    refine tk_if_eq (pc := 23) (tgt := 50) d_M_good_23 (by decide) (fun hc => ?_) (fun hc => ?_)
    · exact absurd hc (by decide)
    refine tk_iload_n (pc := 26) d_M_good_26 rfl ?_
    refine tk_i2l (pc := 27) d_M_good_27 ?_
    refine tk_lconst (pc := 28) (v := 0) d_M_good_28 (by decide) ?_
    refine tk_ldc2 (pc := 29) d_M_good_29 q_M_72 ?_
    refine tk_callSr (pc := 32) d_M_good_32 l_M_63 k_M_in (m_in_yes (x := ct) (lo := 0) (hi := 100000) rfl rfl h2) rfl (by omega) (Nat.le_of_ble_eq_true rfl) (Nat.le_of_ble_eq_true rfl) (Nat.le_of_ble_eq_true rfl) rfl rfl ?_
    refine tk_if_eq (pc := 35) (tgt := 50) d_M_good_35 (by decide) (fun hc => ?_) (fun hc => ?_)
    · exact absurd hc (by decide)
    refine tk_iload_n (pc := 38) d_M_good_38 rfl ?_
    refine tk_i2l (pc := 39) d_M_good_39 ?_
    refine tk_lconst (pc := 40) (v := 0) d_M_good_40 (by decide) ?_
    refine tk_ldc2 (pc := 41) d_M_good_41 q_M_74 ?_
    refine tk_callSr (pc := 44) d_M_good_44 l_M_63 k_M_in (m_in_yes (x := s) (lo := 0) (hi := 6) rfl rfl h3) rfl (by omega) (Nat.le_of_ble_eq_true rfl) (Nat.le_of_ble_eq_true rfl) (Nat.le_of_ble_eq_true rfl) rfl rfl ?_
    refine tk_if_ne (pc := 47) (tgt := 54) d_M_good_47 (by decide) (fun hc => ?_) (fun hc => ?_)
    · refine tk_iconst (pc := 54) (v := 0) d_M_good_54 (by decide) ?_
      refine tk_iconst (pc := 55) (v := 0) d_M_good_55 (by decide) ?_
      refine tk_callVr (pc := 56) d_M_good_56 l_M_76 k_M_throwing rfl rfl rfl (m_t0) rfl (by omega) (Nat.le_of_ble_eq_true rfl) (Nat.le_of_ble_eq_true rfl) (Nat.le_of_ble_eq_true rfl) rfl rfl ?_
      refine tk_if_eq (pc := 59) (tgt := 64) d_M_good_59 (by decide) (fun hd => ?_) (fun hd => ?_)
      · refine tk_aload_n (pc := 64) d_M_good_64 rfl ?_
        refine tk_get (pc := 65) d_M_good_65 f_M_7 rfl rfl ?_
        refine tk_aload_n (pc := 68) d_M_good_68 rfl ?_
        refine tk_get (pc := 69) d_M_good_69 f_M_60 rfl rfl ?_
        refine tk_iload_n (pc := 72) d_M_good_72 rfl ?_
        refine tk_iast (pc := 73) n d_M_good_73 rfl rfl hn' (by decide) ?_
        refine tk_aload_n (pc := 74) d_M_good_74 rfl ?_
        refine tk_get (pc := 75) d_M_good_75 f_M_13 rfl rfl ?_
        refine tk_aload_n (pc := 78) d_M_good_78 rfl ?_
        refine tk_get (pc := 79) d_M_good_79 f_M_60 rfl rfl ?_
        refine tk_iload_n (pc := 82) d_M_good_82 rfl ?_
        refine tk_iast (pc := 83) n d_M_good_83 rfl rfl hn' (by decide) ?_
        refine tk_aload_n (pc := 84) d_M_good_84 rfl ?_
        refine tk_get (pc := 85) d_M_good_85 f_M_16 rfl rfl ?_
        refine tk_aload_n (pc := 88) d_M_good_88 rfl ?_
        refine tk_get (pc := 89) d_M_good_89 f_M_60 rfl rfl ?_
        refine tk_iload_n (pc := 92) d_M_good_92 rfl ?_
        refine tk_iast (pc := 93) n d_M_good_93 rfl rfl hn' (by decide) ?_
        refine tk_aload_n (pc := 94) d_M_good_94 rfl ?_
        refine tk_get (pc := 95) d_M_good_95 f_M_19 rfl rfl ?_
        refine tk_aload_n (pc := 98) d_M_good_98 rfl ?_
        refine tk_get (pc := 99) d_M_good_99 f_M_60 rfl rfl ?_
        refine tk_bipush (pc := 102) (v := 6) d_M_good_102 (by decide) ?_
        refine tk_iast (pc := 104) n d_M_good_104 rfl rfl hn' (by decide) ?_
        refine tk_aload_n (pc := 105) d_M_good_105 rfl ?_
        refine tk_dup (pc := 106) d_M_good_106 rfl ?_
        refine tk_get (pc := 107) d_M_good_107 f_M_60 rfl rfl ?_
        refine tk_iconst (pc := 110) (v := 1) d_M_good_110 (by decide) ?_
        refine tk_iadd (pc := 111) d_M_good_111 ?_
        refine tk_put (pc := 112) d_M_good_112 f_M_60 p_M_1 rfl rfl rfl (Nat.le_of_ble_eq_true rfl) rfl ?_
        refine tk_aload_n (pc := 115) d_M_good_115 rfl ?_
        refine tk_get (pc := 116) d_M_good_116 f_M_60 rfl rfl ?_
        refine tk_iconst (pc := 119) (v := 1) d_M_good_119 (by decide) ?_
        refine tk_isub (pc := 120) d_M_good_120 ?_
        exact tk_ireturn (pc := 121) d_M_good_121 rfl rfl (Nat.le_of_ble_eq_true rfl) (Nat.le_of_ble_eq_true rfl) ⟨by rw [show nI n + 1 = nI (n + 1) from nI_1 n, show nI (n + 1) - 1 = nI n from nI_pred n], by rw [← nI_1]; rfl⟩
      · exact absurd rfl hd
    · exact absurd hc (by decide)
  · exact absurd ((nI_eq (b := 5) (by omega) (by omega)).mp hb) (by omega)
theorem r_element_1 {i e a b : Int32} (hn' : n < 100) (hi : (i < 0 ∨ ¬ i < nI n) ∨ (e < 0 ∨ 3 < e)) : tk_M y_M_element w_M_element 10 0 0 [.ref 29, .int i, .int e, .int a, .int b] (wd g h p c (md th (nI n) mk mc ms ml ma mb hn le gr mo hl hu pc pl aq sp st nw br o)) (tk_det (.inl none) (wd g h p c (md 1 (nI n) mk mc ms ml ma mb hn le gr mo hl hu pc pl aq sp st nw br o))) := by
  refine tk_M.of (lv := [some (.ref 29), some (.int i), some (.int e), some (.int a), some (.int b)]) (by decide) (Nat.le_of_ble_eq_true rfl) rfl ?_
  have tail : tk_T y_M_element c_M_element 5 none [] 10 0 0 (fun _ => none) 0 0 (tk_det (.inl none) (wd g h p c (md 1 (nI n) mk mc ms ml ma mb hn le gr mo hl hu pc pl aq sp st nw br o))) 21 [some (.ref 29), some (.int i), some (.int e), some (.int a), some (.int b)] [.ref 29] (wd g h p c (md th (nI n) mk mc ms ml ma mb hn le gr mo hl hu pc pl aq sp st nw br o)) := by
    have tl2 : ∀ v : Int32, tk_T y_M_element c_M_element 5 none [] 10 0 0 (fun _ => none) 0 0 (tk_det (.inl none) (wd g h p c (md 1 (nI n) mk mc ms ml ma mb hn le gr mo hl hu pc pl aq sp st nw br o))) 40 [some (.ref 29), some (.int i), some (.int e), some (.int a), some (.int b)] [.int v, .int 1, .ref 29] (wd g h p c (md th (nI n) mk mc ms ml ma mb hn le gr mo hl hu pc pl aq sp st nw br o)) := by
      intro v
      refine tk_iconst (pc := 40) (v := 0) d_M_element_40 (by decide) ?_
      refine tk_callVr (pc := 41) d_M_element_41 l_M_76 k_M_throwing rfl rfl rfl (m_t1 (y := v) (z := 0)) rfl (by omega) (Nat.le_of_ble_eq_true rfl) (Nat.le_of_ble_eq_true rfl) (Nat.le_of_ble_eq_true rfl) rfl rfl ?_
      refine tk_if_eq (pc := 44) (tgt := 48) d_M_element_44 (by decide) (fun hb => ?_) (fun hb => ?_)
      · exact absurd hb (by decide)
      exact tk_return (pc := 47) d_M_element_47 rfl (Nat.le_of_ble_eq_true rfl) (Nat.le_of_ble_eq_true rfl) ⟨rfl, rfl⟩
    refine tk_iconst (pc := 21) (v := 1) d_M_element_21 (by decide) ?_
    refine tk_goto (pc := 22) (tgt := 26) d_M_element_22 (by decide) ?_
    refine tk_iload_n (pc := 26) d_M_element_26 rfl ?_
    refine tk_iload (pc := 27) d_M_element_27 rfl ?_
    by_cases hs : (a < 0 ∨ 10000 < a) ∨ (b < a ∨ 10000 < b)
    · refine tk_callSr (pc := 29) d_M_element_29 l_M_88 k_M_isSpan (m_isSpan_n hs) rfl (by omega) (Nat.le_of_ble_eq_true rfl) (Nat.le_of_ble_eq_true rfl) (Nat.le_of_ble_eq_true rfl) rfl rfl ?_
      refine tk_if_ne (pc := 32) (tgt := 39) d_M_element_32 (by decide) (fun hb => ?_) (fun hb => ?_)
      · exact absurd rfl hb
      refine tk_iconst (pc := 35) (v := 1) d_M_element_35 (by decide) ?_
      refine tk_goto (pc := 36) (tgt := 40) d_M_element_36 (by decide) ?_
      exact tl2 1
    · refine tk_callSr (pc := 29) d_M_element_29 l_M_88 k_M_isSpan (m_isSpan_y (fun q => hs (Or.inl q)) (fun q => hs (Or.inr q))) rfl (by omega) (Nat.le_of_ble_eq_true rfl) (Nat.le_of_ble_eq_true rfl) (Nat.le_of_ble_eq_true rfl) rfl rfl ?_
      refine tk_if_ne (pc := 32) (tgt := 39) d_M_element_32 (by decide) (fun hb => ?_) (fun hb => ?_)
      · refine tk_iconst (pc := 39) (v := 0) d_M_element_39 (by decide) ?_
        exact tl2 0
      · exact absurd hb (by decide)
  refine tk_aload_n (pc := 0) d_M_element_0 rfl ?_
  refine tk_aload_n (pc := 1) d_M_element_1 rfl ?_
  refine tk_iload_n (pc := 2) d_M_element_2 rfl ?_
  by_cases h1 : i < 0 ∨ ¬ i < nI n
  · refine tk_callVr (pc := 3) d_M_element_3 l_M_82 k_M_isGood rfl rfl rfl (m_isGood_n h1 hn') rfl (by omega) (Nat.le_of_ble_eq_true rfl) (Nat.le_of_ble_eq_true rfl) (Nat.le_of_ble_eq_true rfl) rfl rfl ?_
    refine tk_if_eq (pc := 6) (tgt := 21) d_M_element_6 (by decide) (fun hb => ?_) (fun hb => ?_)
    · exact tail
    · exact absurd rfl hb
  refine tk_callVr (pc := 3) d_M_element_3 l_M_82 k_M_isGood rfl rfl rfl (m_isGood (n := n) (i := i) hn') rfl (by omega) (Nat.le_of_ble_eq_true rfl) (Nat.le_of_ble_eq_true rfl) (Nat.le_of_ble_eq_true rfl) rfl rfl ?_
  rw [if_neg h1]
  refine tk_if_eq (pc := 6) (tgt := 21) d_M_element_6 (by decide) (fun hb => ?_) (fun hb => ?_)
  · exact absurd hb (by decide)
  refine tk_iload_n (pc := 9) d_M_element_9 rfl ?_
  refine tk_i2l (pc := 10) d_M_element_10 ?_
  refine tk_lconst (pc := 11) (v := 0) d_M_element_11 (by decide) ?_
  refine tk_ldc2 (pc := 12) d_M_element_12 q_M_86 ?_
  refine tk_callSr (pc := 15) d_M_element_15 l_M_63 k_M_in (m_in_no (x := e) (lo := 0) (hi := 3) rfl rfl (hi.resolve_left h1)) rfl (by omega) (Nat.le_of_ble_eq_true rfl) (Nat.le_of_ble_eq_true rfl) (Nat.le_of_ble_eq_true rfl) rfl rfl ?_
  refine tk_if_ne (pc := 18) (tgt := 25) d_M_element_18 (by decide) (fun hb => ?_) (fun hb => ?_)
  · exact absurd rfl hb
  · exact tail
theorem r_element_2 {i e : Nat} {a b : Int32} (hn' : n < 6) (hi : i < n) (he : e < 4) (hs : (a < 0 ∨ 10000 < a) ∨ (b < a ∨ 10000 < b)) : tk_M y_M_element w_M_element 10 0 0 [.ref 29, .int (nI i), .int (nI e), .int a, .int b] (wd g h p c (md th (nI n) mk mc ms ml ma mb hn le gr mo hl hu pc pl aq sp st nw br o)) (tk_det (.inl none) (wd g h p c (md 2 (nI n) mk mc ms ml ma mb hn le gr mo hl hu pc pl aq sp st nw br o))) := by
  refine tk_M.of (lv := [some (.ref 29), some (.int (nI i)), some (.int (nI e)), some (.int a), some (.int b)]) (by decide) (Nat.le_of_ble_eq_true rfl) rfl ?_
  have he' : ¬ (nI e < 0 ∨ 3 < nI e) := fun q => q.elim (nI_pos (by omega)) (fun z => nI_nlt (a := 3) (b := e) (by omega) (by decide) z)
  refine tk_aload_n (pc := 0) d_M_element_0 rfl ?_
  refine tk_aload_n (pc := 1) d_M_element_1 rfl ?_
  refine tk_iload_n (pc := 2) d_M_element_2 rfl ?_
  refine tk_callVr (pc := 3) d_M_element_3 l_M_82 k_M_isGood rfl rfl rfl (m_isGood_y hi (by omega)) rfl (by omega) (Nat.le_of_ble_eq_true rfl) (Nat.le_of_ble_eq_true rfl) (Nat.le_of_ble_eq_true rfl) rfl rfl ?_
  refine tk_if_eq (pc := 6) (tgt := 21) d_M_element_6 (by decide) (fun hb => ?_) (fun hb => ?_)
  · exact absurd hb (by decide)
  refine tk_iload_n (pc := 9) d_M_element_9 rfl ?_
  refine tk_i2l (pc := 10) d_M_element_10 ?_
  refine tk_lconst (pc := 11) (v := 0) d_M_element_11 (by decide) ?_
  refine tk_ldc2 (pc := 12) d_M_element_12 q_M_86 ?_
  refine tk_callSr (pc := 15) d_M_element_15 l_M_63 k_M_in (m_in_yes (x := nI e) (lo := 0) (hi := 3) rfl rfl he') rfl (by omega) (Nat.le_of_ble_eq_true rfl) (Nat.le_of_ble_eq_true rfl) (Nat.le_of_ble_eq_true rfl) rfl rfl ?_
  refine tk_if_ne (pc := 18) (tgt := 25) d_M_element_18 (by decide) (fun hb => ?_) (fun hb => ?_)
  · refine tk_iconst (pc := 25) (v := 0) d_M_element_25 (by decide) ?_
    refine tk_iload_n (pc := 26) d_M_element_26 rfl ?_
    refine tk_iload (pc := 27) d_M_element_27 rfl ?_
    refine tk_callSr (pc := 29) d_M_element_29 l_M_88 k_M_isSpan (m_isSpan_n hs) rfl (by omega) (Nat.le_of_ble_eq_true rfl) (Nat.le_of_ble_eq_true rfl) (Nat.le_of_ble_eq_true rfl) rfl rfl ?_
    refine tk_if_ne (pc := 32) (tgt := 39) d_M_element_32 (by decide) (fun hc => ?_) (fun hc => ?_)
    · exact absurd rfl hc
    refine tk_iconst (pc := 35) (v := 1) d_M_element_35 (by decide) ?_
    refine tk_goto (pc := 36) (tgt := 40) d_M_element_36 (by decide) ?_
    refine tk_iconst (pc := 40) (v := 0) d_M_element_40 (by decide) ?_
    refine tk_callVr (pc := 41) d_M_element_41 l_M_76 k_M_throwing rfl rfl rfl (m_t2 (z := 0)) rfl (by omega) (Nat.le_of_ble_eq_true rfl) (Nat.le_of_ble_eq_true rfl) (Nat.le_of_ble_eq_true rfl) rfl rfl ?_
    refine tk_if_eq (pc := 44) (tgt := 48) d_M_element_44 (by decide) (fun hd => ?_) (fun hd => ?_)
    · exact absurd hd (by decide)
    exact tk_return (pc := 47) d_M_element_47 rfl (Nat.le_of_ble_eq_true rfl) (Nat.le_of_ble_eq_true rfl) ⟨rfl, rfl⟩
  · exact absurd hb (by decide)
theorem r_element_0 {i e : Nat} {a b : Int32} (hn' : n < 6) (hi : i < n) (he : e < 4) (h1 : ¬ (a < 0 ∨ 10000 < a)) (h2 : ¬ (b < a ∨ 10000 < b)) : tk_M y_M_element w_M_element 10 0 0 [.ref 29, .int (nI i), .int (nI e), .int a, .int b] (wd g h p c (md th (nI n) mk mc ms ml ma mb hn le gr mo hl hu pc pl aq sp st nw br o)) (tk_det (.inl none) (wd g h p c (md 0 (nI n) mk mc ms ml (upd ma (4 * i + e) a) (upd mb (4 * i + e) b) hn le gr mo hl hu pc pl aq sp st nw br o))) := by
  refine tk_M.of (lv := [some (.ref 29), some (.int (nI i)), some (.int (nI e)), some (.int a), some (.int b)]) (by decide) (Nat.le_of_ble_eq_true rfl) rfl ?_
  have he' : ¬ (nI e < 0 ∨ 3 < nI e) := fun q => q.elim (nI_pos (by omega)) (fun z => nI_nlt (a := 3) (b := e) (by omega) (by decide) z)
  refine tk_aload_n (pc := 0) d_M_element_0 rfl ?_
  refine tk_aload_n (pc := 1) d_M_element_1 rfl ?_
  refine tk_iload_n (pc := 2) d_M_element_2 rfl ?_
  refine tk_callVr (pc := 3) d_M_element_3 l_M_82 k_M_isGood rfl rfl rfl (m_isGood_y hi (by omega)) rfl (by omega) (Nat.le_of_ble_eq_true rfl) (Nat.le_of_ble_eq_true rfl) (Nat.le_of_ble_eq_true rfl) rfl rfl ?_
  refine tk_if_eq (pc := 6) (tgt := 21) d_M_element_6 (by decide) (fun hb => ?_) (fun hb => ?_)
  · exact absurd hb (by decide)
  refine tk_iload_n (pc := 9) d_M_element_9 rfl ?_
  refine tk_i2l (pc := 10) d_M_element_10 ?_
  refine tk_lconst (pc := 11) (v := 0) d_M_element_11 (by decide) ?_
  refine tk_ldc2 (pc := 12) d_M_element_12 q_M_86 ?_
  refine tk_callSr (pc := 15) d_M_element_15 l_M_63 k_M_in (m_in_yes (x := nI e) (lo := 0) (hi := 3) rfl rfl he') rfl (by omega) (Nat.le_of_ble_eq_true rfl) (Nat.le_of_ble_eq_true rfl) (Nat.le_of_ble_eq_true rfl) rfl rfl ?_
  refine tk_if_ne (pc := 18) (tgt := 25) d_M_element_18 (by decide) (fun hb => ?_) (fun hb => ?_)
  · refine tk_iconst (pc := 25) (v := 0) d_M_element_25 (by decide) ?_
    refine tk_iload_n (pc := 26) d_M_element_26 rfl ?_
    refine tk_iload (pc := 27) d_M_element_27 rfl ?_
    refine tk_callSr (pc := 29) d_M_element_29 l_M_88 k_M_isSpan (m_isSpan_y h1 h2) rfl (by omega) (Nat.le_of_ble_eq_true rfl) (Nat.le_of_ble_eq_true rfl) (Nat.le_of_ble_eq_true rfl) rfl rfl ?_
    refine tk_if_ne (pc := 32) (tgt := 39) d_M_element_32 (by decide) (fun hc => ?_) (fun hc => ?_)
    · refine tk_iconst (pc := 39) (v := 0) d_M_element_39 (by decide) ?_
      refine tk_iconst (pc := 40) (v := 0) d_M_element_40 (by decide) ?_
      refine tk_callVr (pc := 41) d_M_element_41 l_M_76 k_M_throwing rfl rfl rfl (m_t0) rfl (by omega) (Nat.le_of_ble_eq_true rfl) (Nat.le_of_ble_eq_true rfl) (Nat.le_of_ble_eq_true rfl) rfl rfl ?_
      refine tk_if_eq (pc := 44) (tgt := 48) d_M_element_44 (by decide) (fun hd => ?_) (fun hd => ?_)
      · refine tk_aload_n (pc := 48) d_M_element_48 rfl ?_
        refine tk_get (pc := 49) d_M_element_49 f_M_22 rfl rfl ?_
        refine tk_iconst (pc := 52) (v := 4) d_M_element_52 (by decide) ?_
        refine tk_iload_n (pc := 53) d_M_element_53 rfl ?_
        refine tk_imul (pc := 54) d_M_element_54 ?_
        refine tk_iload_n (pc := 55) d_M_element_55 rfl ?_
        refine tk_iadd (pc := 56) d_M_element_56 ?_
        refine tk_iload_n (pc := 57) d_M_element_57 rfl ?_
        refine tk_iast (pc := 58) (4*i+e) d_M_element_58 rfl (ixma 4 i e) (by omega) (by decide) ?_
        refine tk_aload_n (pc := 59) d_M_element_59 rfl ?_
        refine tk_get (pc := 60) d_M_element_60 f_M_25 rfl rfl ?_
        refine tk_iconst (pc := 63) (v := 4) d_M_element_63 (by decide) ?_
        refine tk_iload_n (pc := 64) d_M_element_64 rfl ?_
        refine tk_imul (pc := 65) d_M_element_65 ?_
        refine tk_iload_n (pc := 66) d_M_element_66 rfl ?_
        refine tk_iadd (pc := 67) d_M_element_67 ?_
        refine tk_iload (pc := 68) d_M_element_68 rfl ?_
        refine tk_iast (pc := 70) (4*i+e) d_M_element_70 rfl (ixma 4 i e) (by omega) (by decide) ?_
        exact tk_return (pc := 71) d_M_element_71 rfl (Nat.le_of_ble_eq_true rfl) (Nat.le_of_ble_eq_true rfl) ⟨rfl, rfl⟩
      · exact absurd rfl hd
    · exact absurd hc (by decide)
  · exact absurd hb (by decide)
theorem r_span_1 {i e a b : Int32} (hn' : n < 100) (hi : (i < 0 ∨ ¬ i < nI n) ∨ (e < 0 ∨ 3 < e)) : tk_M y_M_span w_M_span 10 0 0 [.ref 29, .int i, .int e, .int a, .int b] (wd g h p c (md th gn mk mc ms ml ma mb (nI n) le gr mo hl hu pc pl aq sp st nw br o)) (tk_det (.inl none) (wd g h p c (md 1 gn mk mc ms ml ma mb (nI n) le gr mo hl hu pc pl aq sp st nw br o))) := by
  refine tk_M.of (lv := [some (.ref 29), some (.int i), some (.int e), some (.int a), some (.int b)]) (by decide) (Nat.le_of_ble_eq_true rfl) rfl ?_
  have tail : tk_T y_M_span c_M_span 5 none [] 10 0 0 (fun _ => none) 0 0 (tk_det (.inl none) (wd g h p c (md 1 gn mk mc ms ml ma mb (nI n) le gr mo hl hu pc pl aq sp st nw br o))) 21 [some (.ref 29), some (.int i), some (.int e), some (.int a), some (.int b)] [.ref 29] (wd g h p c (md th gn mk mc ms ml ma mb (nI n) le gr mo hl hu pc pl aq sp st nw br o)) := by
    have tl2 : ∀ v : Int32, tk_T y_M_span c_M_span 5 none [] 10 0 0 (fun _ => none) 0 0 (tk_det (.inl none) (wd g h p c (md 1 gn mk mc ms ml ma mb (nI n) le gr mo hl hu pc pl aq sp st nw br o))) 40 [some (.ref 29), some (.int i), some (.int e), some (.int a), some (.int b)] [.int v, .int 1, .ref 29] (wd g h p c (md th gn mk mc ms ml ma mb (nI n) le gr mo hl hu pc pl aq sp st nw br o)) := by
      intro v
      refine tk_iconst (pc := 40) (v := 0) d_M_span_40 (by decide) ?_
      refine tk_callVr (pc := 41) d_M_span_41 l_M_76 k_M_throwing rfl rfl rfl (m_t1 (y := v) (z := 0)) rfl (by omega) (Nat.le_of_ble_eq_true rfl) (Nat.le_of_ble_eq_true rfl) (Nat.le_of_ble_eq_true rfl) rfl rfl ?_
      refine tk_if_eq (pc := 44) (tgt := 48) d_M_span_44 (by decide) (fun hb => ?_) (fun hb => ?_)
      · exact absurd hb (by decide)
      exact tk_return (pc := 47) d_M_span_47 rfl (Nat.le_of_ble_eq_true rfl) (Nat.le_of_ble_eq_true rfl) ⟨rfl, rfl⟩
    refine tk_iconst (pc := 21) (v := 1) d_M_span_21 (by decide) ?_
    refine tk_goto (pc := 22) (tgt := 26) d_M_span_22 (by decide) ?_
    refine tk_iload_n (pc := 26) d_M_span_26 rfl ?_
    refine tk_iload (pc := 27) d_M_span_27 rfl ?_
    by_cases hs : (a < 0 ∨ 10000 < a) ∨ (b < a ∨ 10000 < b)
    · refine tk_callSr (pc := 29) d_M_span_29 l_M_88 k_M_isSpan (m_isSpan_n hs) rfl (by omega) (Nat.le_of_ble_eq_true rfl) (Nat.le_of_ble_eq_true rfl) (Nat.le_of_ble_eq_true rfl) rfl rfl ?_
      refine tk_if_ne (pc := 32) (tgt := 39) d_M_span_32 (by decide) (fun hb => ?_) (fun hb => ?_)
      · exact absurd rfl hb
      refine tk_iconst (pc := 35) (v := 1) d_M_span_35 (by decide) ?_
      refine tk_goto (pc := 36) (tgt := 40) d_M_span_36 (by decide) ?_
      exact tl2 1
    · refine tk_callSr (pc := 29) d_M_span_29 l_M_88 k_M_isSpan (m_isSpan_y (fun q => hs (Or.inl q)) (fun q => hs (Or.inr q))) rfl (by omega) (Nat.le_of_ble_eq_true rfl) (Nat.le_of_ble_eq_true rfl) (Nat.le_of_ble_eq_true rfl) rfl rfl ?_
      refine tk_if_ne (pc := 32) (tgt := 39) d_M_span_32 (by decide) (fun hb => ?_) (fun hb => ?_)
      · refine tk_iconst (pc := 39) (v := 0) d_M_span_39 (by decide) ?_
        exact tl2 0
      · exact absurd hb (by decide)
  refine tk_aload_n (pc := 0) d_M_span_0 rfl ?_
  refine tk_aload_n (pc := 1) d_M_span_1 rfl ?_
  refine tk_iload_n (pc := 2) d_M_span_2 rfl ?_
  by_cases h1 : i < 0 ∨ ¬ i < nI n
  · refine tk_callVr (pc := 3) d_M_span_3 l_M_92 k_M_isHeat rfl rfl rfl (m_isHeat_n h1 hn') rfl (by omega) (Nat.le_of_ble_eq_true rfl) (Nat.le_of_ble_eq_true rfl) (Nat.le_of_ble_eq_true rfl) rfl rfl ?_
    refine tk_if_eq (pc := 6) (tgt := 21) d_M_span_6 (by decide) (fun hb => ?_) (fun hb => ?_)
    · exact tail
    · exact absurd rfl hb
  refine tk_callVr (pc := 3) d_M_span_3 l_M_92 k_M_isHeat rfl rfl rfl (m_isHeat (n := n) (i := i) hn') rfl (by omega) (Nat.le_of_ble_eq_true rfl) (Nat.le_of_ble_eq_true rfl) (Nat.le_of_ble_eq_true rfl) rfl rfl ?_
  rw [if_neg h1]
  refine tk_if_eq (pc := 6) (tgt := 21) d_M_span_6 (by decide) (fun hb => ?_) (fun hb => ?_)
  · exact absurd hb (by decide)
  refine tk_iload_n (pc := 9) d_M_span_9 rfl ?_
  refine tk_i2l (pc := 10) d_M_span_10 ?_
  refine tk_lconst (pc := 11) (v := 0) d_M_span_11 (by decide) ?_
  refine tk_ldc2 (pc := 12) d_M_span_12 q_M_86 ?_
  refine tk_callSr (pc := 15) d_M_span_15 l_M_63 k_M_in (m_in_no (x := e) (lo := 0) (hi := 3) rfl rfl (hi.resolve_left h1)) rfl (by omega) (Nat.le_of_ble_eq_true rfl) (Nat.le_of_ble_eq_true rfl) (Nat.le_of_ble_eq_true rfl) rfl rfl ?_
  refine tk_if_ne (pc := 18) (tgt := 25) d_M_span_18 (by decide) (fun hb => ?_) (fun hb => ?_)
  · exact absurd rfl hb
  · exact tail
theorem r_span_2 {i e : Nat} {a b : Int32} (hn' : n < 5) (hi : i < n) (he : e < 4) (hs : (a < 0 ∨ 10000 < a) ∨ (b < a ∨ 10000 < b)) : tk_M y_M_span w_M_span 10 0 0 [.ref 29, .int (nI i), .int (nI e), .int a, .int b] (wd g h p c (md th gn mk mc ms ml ma mb (nI n) le gr mo hl hu pc pl aq sp st nw br o)) (tk_det (.inl none) (wd g h p c (md 2 gn mk mc ms ml ma mb (nI n) le gr mo hl hu pc pl aq sp st nw br o))) := by
  refine tk_M.of (lv := [some (.ref 29), some (.int (nI i)), some (.int (nI e)), some (.int a), some (.int b)]) (by decide) (Nat.le_of_ble_eq_true rfl) rfl ?_
  have he' : ¬ (nI e < 0 ∨ 3 < nI e) := fun q => q.elim (nI_pos (by omega)) (fun z => nI_nlt (a := 3) (b := e) (by omega) (by decide) z)
  refine tk_aload_n (pc := 0) d_M_span_0 rfl ?_
  refine tk_aload_n (pc := 1) d_M_span_1 rfl ?_
  refine tk_iload_n (pc := 2) d_M_span_2 rfl ?_
  refine tk_callVr (pc := 3) d_M_span_3 l_M_92 k_M_isHeat rfl rfl rfl (m_isHeat_y hi (by omega)) rfl (by omega) (Nat.le_of_ble_eq_true rfl) (Nat.le_of_ble_eq_true rfl) (Nat.le_of_ble_eq_true rfl) rfl rfl ?_
  refine tk_if_eq (pc := 6) (tgt := 21) d_M_span_6 (by decide) (fun hb => ?_) (fun hb => ?_)
  · exact absurd hb (by decide)
  refine tk_iload_n (pc := 9) d_M_span_9 rfl ?_
  refine tk_i2l (pc := 10) d_M_span_10 ?_
  refine tk_lconst (pc := 11) (v := 0) d_M_span_11 (by decide) ?_
  refine tk_ldc2 (pc := 12) d_M_span_12 q_M_86 ?_
  refine tk_callSr (pc := 15) d_M_span_15 l_M_63 k_M_in (m_in_yes (x := nI e) (lo := 0) (hi := 3) rfl rfl he') rfl (by omega) (Nat.le_of_ble_eq_true rfl) (Nat.le_of_ble_eq_true rfl) (Nat.le_of_ble_eq_true rfl) rfl rfl ?_
  refine tk_if_ne (pc := 18) (tgt := 25) d_M_span_18 (by decide) (fun hb => ?_) (fun hb => ?_)
  · refine tk_iconst (pc := 25) (v := 0) d_M_span_25 (by decide) ?_
    refine tk_iload_n (pc := 26) d_M_span_26 rfl ?_
    refine tk_iload (pc := 27) d_M_span_27 rfl ?_
    refine tk_callSr (pc := 29) d_M_span_29 l_M_88 k_M_isSpan (m_isSpan_n hs) rfl (by omega) (Nat.le_of_ble_eq_true rfl) (Nat.le_of_ble_eq_true rfl) (Nat.le_of_ble_eq_true rfl) rfl rfl ?_
    refine tk_if_ne (pc := 32) (tgt := 39) d_M_span_32 (by decide) (fun hc => ?_) (fun hc => ?_)
    · exact absurd rfl hc
    refine tk_iconst (pc := 35) (v := 1) d_M_span_35 (by decide) ?_
    refine tk_goto (pc := 36) (tgt := 40) d_M_span_36 (by decide) ?_
    refine tk_iconst (pc := 40) (v := 0) d_M_span_40 (by decide) ?_
    refine tk_callVr (pc := 41) d_M_span_41 l_M_76 k_M_throwing rfl rfl rfl (m_t2 (z := 0)) rfl (by omega) (Nat.le_of_ble_eq_true rfl) (Nat.le_of_ble_eq_true rfl) (Nat.le_of_ble_eq_true rfl) rfl rfl ?_
    refine tk_if_eq (pc := 44) (tgt := 48) d_M_span_44 (by decide) (fun hd => ?_) (fun hd => ?_)
    · exact absurd hd (by decide)
    exact tk_return (pc := 47) d_M_span_47 rfl (Nat.le_of_ble_eq_true rfl) (Nat.le_of_ble_eq_true rfl) ⟨rfl, rfl⟩
  · exact absurd hb (by decide)
theorem r_span_0 {i e : Nat} {a b : Int32} (hn' : n < 5) (hi : i < n) (he : e < 4) (h1 : ¬ (a < 0 ∨ 10000 < a)) (h2 : ¬ (b < a ∨ 10000 < b)) : tk_M y_M_span w_M_span 10 0 0 [.ref 29, .int (nI i), .int (nI e), .int a, .int b] (wd g h p c (md th gn mk mc ms ml ma mb (nI n) le gr mo hl hu pc pl aq sp st nw br o)) (tk_det (.inl none) (wd g h p c (md 0 gn mk mc ms ml ma mb (nI n) le gr mo (upd hl (4 * i + e) a) (upd hu (4 * i + e) b) pc pl aq sp st nw br o))) := by
  refine tk_M.of (lv := [some (.ref 29), some (.int (nI i)), some (.int (nI e)), some (.int a), some (.int b)]) (by decide) (Nat.le_of_ble_eq_true rfl) rfl ?_
  have he' : ¬ (nI e < 0 ∨ 3 < nI e) := fun q => q.elim (nI_pos (by omega)) (fun z => nI_nlt (a := 3) (b := e) (by omega) (by decide) z)
  refine tk_aload_n (pc := 0) d_M_span_0 rfl ?_
  refine tk_aload_n (pc := 1) d_M_span_1 rfl ?_
  refine tk_iload_n (pc := 2) d_M_span_2 rfl ?_
  refine tk_callVr (pc := 3) d_M_span_3 l_M_92 k_M_isHeat rfl rfl rfl (m_isHeat_y hi (by omega)) rfl (by omega) (Nat.le_of_ble_eq_true rfl) (Nat.le_of_ble_eq_true rfl) (Nat.le_of_ble_eq_true rfl) rfl rfl ?_
  refine tk_if_eq (pc := 6) (tgt := 21) d_M_span_6 (by decide) (fun hb => ?_) (fun hb => ?_)
  · exact absurd hb (by decide)
  refine tk_iload_n (pc := 9) d_M_span_9 rfl ?_
  refine tk_i2l (pc := 10) d_M_span_10 ?_
  refine tk_lconst (pc := 11) (v := 0) d_M_span_11 (by decide) ?_
  refine tk_ldc2 (pc := 12) d_M_span_12 q_M_86 ?_
  refine tk_callSr (pc := 15) d_M_span_15 l_M_63 k_M_in (m_in_yes (x := nI e) (lo := 0) (hi := 3) rfl rfl he') rfl (by omega) (Nat.le_of_ble_eq_true rfl) (Nat.le_of_ble_eq_true rfl) (Nat.le_of_ble_eq_true rfl) rfl rfl ?_
  refine tk_if_ne (pc := 18) (tgt := 25) d_M_span_18 (by decide) (fun hb => ?_) (fun hb => ?_)
  · refine tk_iconst (pc := 25) (v := 0) d_M_span_25 (by decide) ?_
    refine tk_iload_n (pc := 26) d_M_span_26 rfl ?_
    refine tk_iload (pc := 27) d_M_span_27 rfl ?_
    refine tk_callSr (pc := 29) d_M_span_29 l_M_88 k_M_isSpan (m_isSpan_y h1 h2) rfl (by omega) (Nat.le_of_ble_eq_true rfl) (Nat.le_of_ble_eq_true rfl) (Nat.le_of_ble_eq_true rfl) rfl rfl ?_
    refine tk_if_ne (pc := 32) (tgt := 39) d_M_span_32 (by decide) (fun hc => ?_) (fun hc => ?_)
    · refine tk_iconst (pc := 39) (v := 0) d_M_span_39 (by decide) ?_
      refine tk_iconst (pc := 40) (v := 0) d_M_span_40 (by decide) ?_
      refine tk_callVr (pc := 41) d_M_span_41 l_M_76 k_M_throwing rfl rfl rfl (m_t0) rfl (by omega) (Nat.le_of_ble_eq_true rfl) (Nat.le_of_ble_eq_true rfl) (Nat.le_of_ble_eq_true rfl) rfl rfl ?_
      refine tk_if_eq (pc := 44) (tgt := 48) d_M_span_44 (by decide) (fun hd => ?_) (fun hd => ?_)
      · refine tk_aload_n (pc := 48) d_M_span_48 rfl ?_
        refine tk_get (pc := 49) d_M_span_49 f_M_37 rfl rfl ?_
        refine tk_iconst (pc := 52) (v := 4) d_M_span_52 (by decide) ?_
        refine tk_iload_n (pc := 53) d_M_span_53 rfl ?_
        refine tk_imul (pc := 54) d_M_span_54 ?_
        refine tk_iload_n (pc := 55) d_M_span_55 rfl ?_
        refine tk_iadd (pc := 56) d_M_span_56 ?_
        refine tk_iload_n (pc := 57) d_M_span_57 rfl ?_
        refine tk_iast (pc := 58) (4*i+e) d_M_span_58 rfl (ixma 4 i e) (by omega) (by decide) ?_
        refine tk_aload_n (pc := 59) d_M_span_59 rfl ?_
        refine tk_get (pc := 60) d_M_span_60 f_M_40 rfl rfl ?_
        refine tk_iconst (pc := 63) (v := 4) d_M_span_63 (by decide) ?_
        refine tk_iload_n (pc := 64) d_M_span_64 rfl ?_
        refine tk_imul (pc := 65) d_M_span_65 ?_
        refine tk_iload_n (pc := 66) d_M_span_66 rfl ?_
        refine tk_iadd (pc := 67) d_M_span_67 ?_
        refine tk_iload (pc := 68) d_M_span_68 rfl ?_
        refine tk_iast (pc := 70) (4*i+e) d_M_span_70 rfl (ixma 4 i e) (by omega) (by decide) ?_
        exact tk_return (pc := 71) d_M_span_71 rfl (Nat.le_of_ble_eq_true rfl) (Nat.le_of_ble_eq_true rfl) ⟨rfl, rfl⟩
      · exact absurd rfl hd
    · exact absurd hc (by decide)
  · exact absurd hb (by decide)
theorem r_limit_1 {i a : Int32} (hn' : n < 100) (hi : i < 0 ∨ ¬ i < nI n) : tk_M y_M_limit w_M_limit 10 0 0 [.ref 29, .int i, .int a] (wd g h p c (md th (nI n) mk mc ms ml ma mb hn le gr mo hl hu pc pl aq sp st nw br o)) (tk_det (.inl none) (wd g h p c (md 1 (nI n) mk mc ms ml ma mb hn le gr mo hl hu pc pl aq sp st nw br o))) := by
  refine tk_M.of (lv := [some (.ref 29), some (.int i), some (.int a)]) (by decide) (Nat.le_of_ble_eq_true rfl) rfl ?_
  have tail : ∀ v : Int32, tk_T y_M_limit c_M_limit 3 none [] 10 0 0 (fun _ => none) 0 0 (tk_det (.inl none) (wd g h p c (md 1 (nI n) mk mc ms ml ma mb hn le gr mo hl hu pc pl aq sp st nw br o))) 31 [some (.ref 29), some (.int i), some (.int a)] [.int v, .int 1, .ref 29] (wd g h p c (md th (nI n) mk mc ms ml ma mb hn le gr mo hl hu pc pl aq sp st nw br o)) := by
    intro v
    refine tk_iconst (pc := 31) (v := 0) d_M_limit_31 (by decide) ?_
    refine tk_callVr (pc := 32) d_M_limit_32 l_M_76 k_M_throwing rfl rfl rfl (m_t1 (y := v) (z := 0)) rfl (by omega) (Nat.le_of_ble_eq_true rfl) (Nat.le_of_ble_eq_true rfl) (Nat.le_of_ble_eq_true rfl) rfl rfl ?_
    refine tk_if_eq (pc := 35) (tgt := 39) d_M_limit_35 (by decide) (fun hb => ?_) (fun hb => ?_)
    · exact absurd hb (by decide)
    exact tk_return (pc := 38) d_M_limit_38 rfl (Nat.le_of_ble_eq_true rfl) (Nat.le_of_ble_eq_true rfl) ⟨rfl, rfl⟩
  refine tk_aload_n (pc := 0) d_M_limit_0 rfl ?_
  refine tk_aload_n (pc := 1) d_M_limit_1 rfl ?_
  refine tk_iload_n (pc := 2) d_M_limit_2 rfl ?_
  refine tk_callVr (pc := 3) d_M_limit_3 l_M_82 k_M_isGood rfl rfl rfl (m_isGood_n hi hn') rfl (by omega) (Nat.le_of_ble_eq_true rfl) (Nat.le_of_ble_eq_true rfl) (Nat.le_of_ble_eq_true rfl) rfl rfl ?_
  refine tk_if_ne (pc := 6) (tgt := 13) d_M_limit_6 (by decide) (fun hb => ?_) (fun hb => ?_)
  · exact absurd rfl hb
  refine tk_iconst (pc := 9) (v := 1) d_M_limit_9 (by decide) ?_
  refine tk_goto (pc := 10) (tgt := 14) d_M_limit_10 (by decide) ?_
  refine tk_iload_n (pc := 14) d_M_limit_14 rfl ?_
  refine tk_i2l (pc := 15) d_M_limit_15 ?_
  refine tk_lconst (pc := 16) (v := 0) d_M_limit_16 (by decide) ?_
  refine tk_ldc2 (pc := 17) d_M_limit_17 q_M_74 ?_
  refine tk_callSr (pc := 20) d_M_limit_20 l_M_63 k_M_in (m_inI (x := a) (lo := 0) (hi := 6) rfl rfl) rfl (by omega) (Nat.le_of_ble_eq_true rfl) (Nat.le_of_ble_eq_true rfl) (Nat.le_of_ble_eq_true rfl) rfl rfl ?_
  refine tk_if_ne (pc := 23) (tgt := 30) d_M_limit_23 (by decide) (fun hb => ?_) (fun hb => ?_)
  · refine tk_iconst (pc := 30) (v := 0) d_M_limit_30 (by decide) ?_
    exact tail 0
  · refine tk_iconst (pc := 26) (v := 1) d_M_limit_26 (by decide) ?_
    refine tk_goto (pc := 27) (tgt := 31) d_M_limit_27 (by decide) ?_
    exact tail 1
theorem r_limit_2 {i : Nat} {a : Int32} (hn' : n < 6) (hi : i < n) (ha : a < 0 ∨ 6 < a) : tk_M y_M_limit w_M_limit 10 0 0 [.ref 29, .int (nI i), .int a] (wd g h p c (md th (nI n) mk mc ms ml ma mb hn le gr mo hl hu pc pl aq sp st nw br o)) (tk_det (.inl none) (wd g h p c (md 2 (nI n) mk mc ms ml ma mb hn le gr mo hl hu pc pl aq sp st nw br o))) := by
  refine tk_M.of (lv := [some (.ref 29), some (.int (nI i)), some (.int a)]) (by decide) (Nat.le_of_ble_eq_true rfl) rfl ?_
  refine tk_aload_n (pc := 0) d_M_limit_0 rfl ?_
  refine tk_aload_n (pc := 1) d_M_limit_1 rfl ?_
  refine tk_iload_n (pc := 2) d_M_limit_2 rfl ?_
  refine tk_callVr (pc := 3) d_M_limit_3 l_M_82 k_M_isGood rfl rfl rfl (m_isGood_y hi (by omega)) rfl (by omega) (Nat.le_of_ble_eq_true rfl) (Nat.le_of_ble_eq_true rfl) (Nat.le_of_ble_eq_true rfl) rfl rfl ?_
  refine tk_if_ne (pc := 6) (tgt := 13) d_M_limit_6 (by decide) (fun hb => ?_) (fun hb => ?_)
  · refine tk_iconst (pc := 13) (v := 0) d_M_limit_13 (by decide) ?_
    refine tk_iload_n (pc := 14) d_M_limit_14 rfl ?_
    refine tk_i2l (pc := 15) d_M_limit_15 ?_
    refine tk_lconst (pc := 16) (v := 0) d_M_limit_16 (by decide) ?_
    refine tk_ldc2 (pc := 17) d_M_limit_17 q_M_74 ?_
    refine tk_callSr (pc := 20) d_M_limit_20 l_M_63 k_M_in (m_in_no (x := a) (lo := 0) (hi := 6) rfl rfl ha) rfl (by omega) (Nat.le_of_ble_eq_true rfl) (Nat.le_of_ble_eq_true rfl) (Nat.le_of_ble_eq_true rfl) rfl rfl ?_
    refine tk_if_ne (pc := 23) (tgt := 30) d_M_limit_23 (by decide) (fun hc => ?_) (fun hc => ?_)
    · exact absurd rfl hc
    refine tk_iconst (pc := 26) (v := 1) d_M_limit_26 (by decide) ?_
    refine tk_goto (pc := 27) (tgt := 31) d_M_limit_27 (by decide) ?_
    refine tk_iconst (pc := 31) (v := 0) d_M_limit_31 (by decide) ?_
    refine tk_callVr (pc := 32) d_M_limit_32 l_M_76 k_M_throwing rfl rfl rfl (m_t2 (z := 0)) rfl (by omega) (Nat.le_of_ble_eq_true rfl) (Nat.le_of_ble_eq_true rfl) (Nat.le_of_ble_eq_true rfl) rfl rfl ?_
    refine tk_if_eq (pc := 35) (tgt := 39) d_M_limit_35 (by decide) (fun hd => ?_) (fun hd => ?_)
    · exact absurd hd (by decide)
    exact tk_return (pc := 38) d_M_limit_38 rfl (Nat.le_of_ble_eq_true rfl) (Nat.le_of_ble_eq_true rfl) ⟨rfl, rfl⟩
  · exact absurd hb (by decide)
theorem r_limit_0 {i : Nat} {a : Int32} (hn' : n < 6) (hi : i < n) (ha : ¬ (a < 0 ∨ 6 < a)) : tk_M y_M_limit w_M_limit 10 0 0 [.ref 29, .int (nI i), .int a] (wd g h p c (md th (nI n) mk mc ms ml ma mb hn le gr mo hl hu pc pl aq sp st nw br o)) (tk_det (.inl none) (wd g h p c (md 0 (nI n) mk mc ms (upd ml i a) ma mb hn le gr mo hl hu pc pl aq sp st nw br o))) := by
  refine tk_M.of (lv := [some (.ref 29), some (.int (nI i)), some (.int a)]) (by decide) (Nat.le_of_ble_eq_true rfl) rfl ?_
  refine tk_aload_n (pc := 0) d_M_limit_0 rfl ?_
  refine tk_aload_n (pc := 1) d_M_limit_1 rfl ?_
  refine tk_iload_n (pc := 2) d_M_limit_2 rfl ?_
  refine tk_callVr (pc := 3) d_M_limit_3 l_M_82 k_M_isGood rfl rfl rfl (m_isGood_y hi (by omega)) rfl (by omega) (Nat.le_of_ble_eq_true rfl) (Nat.le_of_ble_eq_true rfl) (Nat.le_of_ble_eq_true rfl) rfl rfl ?_
  refine tk_if_ne (pc := 6) (tgt := 13) d_M_limit_6 (by decide) (fun hb => ?_) (fun hb => ?_)
  · refine tk_iconst (pc := 13) (v := 0) d_M_limit_13 (by decide) ?_
    refine tk_iload_n (pc := 14) d_M_limit_14 rfl ?_
    refine tk_i2l (pc := 15) d_M_limit_15 ?_
    refine tk_lconst (pc := 16) (v := 0) d_M_limit_16 (by decide) ?_
    refine tk_ldc2 (pc := 17) d_M_limit_17 q_M_74 ?_
    refine tk_callSr (pc := 20) d_M_limit_20 l_M_63 k_M_in (m_in_yes (x := a) (lo := 0) (hi := 6) rfl rfl ha) rfl (by omega) (Nat.le_of_ble_eq_true rfl) (Nat.le_of_ble_eq_true rfl) (Nat.le_of_ble_eq_true rfl) rfl rfl ?_
    refine tk_if_ne (pc := 23) (tgt := 30) d_M_limit_23 (by decide) (fun hc => ?_) (fun hc => ?_)
    · refine tk_iconst (pc := 30) (v := 0) d_M_limit_30 (by decide) ?_
      refine tk_iconst (pc := 31) (v := 0) d_M_limit_31 (by decide) ?_
      refine tk_callVr (pc := 32) d_M_limit_32 l_M_76 k_M_throwing rfl rfl rfl (m_t0) rfl (by omega) (Nat.le_of_ble_eq_true rfl) (Nat.le_of_ble_eq_true rfl) (Nat.le_of_ble_eq_true rfl) rfl rfl ?_
      refine tk_if_eq (pc := 35) (tgt := 39) d_M_limit_35 (by decide) (fun hd => ?_) (fun hd => ?_)
      · refine tk_aload_n (pc := 39) d_M_limit_39 rfl ?_
        refine tk_get (pc := 40) d_M_limit_40 f_M_19 rfl rfl ?_
        refine tk_iload_n (pc := 43) d_M_limit_43 rfl ?_
        refine tk_iload_n (pc := 44) d_M_limit_44 rfl ?_
        refine tk_iast (pc := 45) i d_M_limit_45 rfl rfl (by omega) (by decide) ?_
        exact tk_return (pc := 46) d_M_limit_46 rfl (Nat.le_of_ble_eq_true rfl) (Nat.le_of_ble_eq_true rfl) ⟨rfl, rfl⟩
      · exact absurd rfl hd
    · exact absurd hc (by decide)
  · exact absurd hb (by decide)
theorem r_most_1 {i a : Int32} (hn' : n < 100) (hi : i < 0 ∨ ¬ i < nI n) : tk_M y_M_most w_M_most 10 0 0 [.ref 29, .int i, .int a] (wd g h p c (md th gn mk mc ms ml ma mb (nI n) le gr mo hl hu pc pl aq sp st nw br o)) (tk_det (.inl none) (wd g h p c (md 1 gn mk mc ms ml ma mb (nI n) le gr mo hl hu pc pl aq sp st nw br o))) := by
  refine tk_M.of (lv := [some (.ref 29), some (.int i), some (.int a)]) (by decide) (Nat.le_of_ble_eq_true rfl) rfl ?_
  have tail : ∀ v : Int32, tk_T y_M_most c_M_most 3 none [] 10 0 0 (fun _ => none) 0 0 (tk_det (.inl none) (wd g h p c (md 1 gn mk mc ms ml ma mb (nI n) le gr mo hl hu pc pl aq sp st nw br o))) 31 [some (.ref 29), some (.int i), some (.int a)] [.int v, .int 1, .ref 29] (wd g h p c (md th gn mk mc ms ml ma mb (nI n) le gr mo hl hu pc pl aq sp st nw br o)) := by
    intro v
    refine tk_iconst (pc := 31) (v := 0) d_M_most_31 (by decide) ?_
    refine tk_callVr (pc := 32) d_M_most_32 l_M_76 k_M_throwing rfl rfl rfl (m_t1 (y := v) (z := 0)) rfl (by omega) (Nat.le_of_ble_eq_true rfl) (Nat.le_of_ble_eq_true rfl) (Nat.le_of_ble_eq_true rfl) rfl rfl ?_
    refine tk_if_eq (pc := 35) (tgt := 39) d_M_most_35 (by decide) (fun hb => ?_) (fun hb => ?_)
    · exact absurd hb (by decide)
    exact tk_return (pc := 38) d_M_most_38 rfl (Nat.le_of_ble_eq_true rfl) (Nat.le_of_ble_eq_true rfl) ⟨rfl, rfl⟩
  refine tk_aload_n (pc := 0) d_M_most_0 rfl ?_
  refine tk_aload_n (pc := 1) d_M_most_1 rfl ?_
  refine tk_iload_n (pc := 2) d_M_most_2 rfl ?_
  refine tk_callVr (pc := 3) d_M_most_3 l_M_92 k_M_isHeat rfl rfl rfl (m_isHeat_n hi hn') rfl (by omega) (Nat.le_of_ble_eq_true rfl) (Nat.le_of_ble_eq_true rfl) (Nat.le_of_ble_eq_true rfl) rfl rfl ?_
  refine tk_if_ne (pc := 6) (tgt := 13) d_M_most_6 (by decide) (fun hb => ?_) (fun hb => ?_)
  · exact absurd rfl hb
  refine tk_iconst (pc := 9) (v := 1) d_M_most_9 (by decide) ?_
  refine tk_goto (pc := 10) (tgt := 14) d_M_most_10 (by decide) ?_
  refine tk_iload_n (pc := 14) d_M_most_14 rfl ?_
  refine tk_i2l (pc := 15) d_M_most_15 ?_
  refine tk_lconst (pc := 16) (v := 0) d_M_most_16 (by decide) ?_
  refine tk_ldc2 (pc := 17) d_M_most_17 q_M_95 ?_
  refine tk_callSr (pc := 20) d_M_most_20 l_M_63 k_M_in (m_inI (x := a) (lo := 0) (hi := 30) rfl rfl) rfl (by omega) (Nat.le_of_ble_eq_true rfl) (Nat.le_of_ble_eq_true rfl) (Nat.le_of_ble_eq_true rfl) rfl rfl ?_
  refine tk_if_ne (pc := 23) (tgt := 30) d_M_most_23 (by decide) (fun hb => ?_) (fun hb => ?_)
  · refine tk_iconst (pc := 30) (v := 0) d_M_most_30 (by decide) ?_
    exact tail 0
  · refine tk_iconst (pc := 26) (v := 1) d_M_most_26 (by decide) ?_
    refine tk_goto (pc := 27) (tgt := 31) d_M_most_27 (by decide) ?_
    exact tail 1
theorem r_most_2 {i : Nat} {a : Int32} (hn' : n < 5) (hi : i < n) (ha : a < 0 ∨ 30 < a) : tk_M y_M_most w_M_most 10 0 0 [.ref 29, .int (nI i), .int a] (wd g h p c (md th gn mk mc ms ml ma mb (nI n) le gr mo hl hu pc pl aq sp st nw br o)) (tk_det (.inl none) (wd g h p c (md 2 gn mk mc ms ml ma mb (nI n) le gr mo hl hu pc pl aq sp st nw br o))) := by
  refine tk_M.of (lv := [some (.ref 29), some (.int (nI i)), some (.int a)]) (by decide) (Nat.le_of_ble_eq_true rfl) rfl ?_
  refine tk_aload_n (pc := 0) d_M_most_0 rfl ?_
  refine tk_aload_n (pc := 1) d_M_most_1 rfl ?_
  refine tk_iload_n (pc := 2) d_M_most_2 rfl ?_
  refine tk_callVr (pc := 3) d_M_most_3 l_M_92 k_M_isHeat rfl rfl rfl (m_isHeat_y hi (by omega)) rfl (by omega) (Nat.le_of_ble_eq_true rfl) (Nat.le_of_ble_eq_true rfl) (Nat.le_of_ble_eq_true rfl) rfl rfl ?_
  refine tk_if_ne (pc := 6) (tgt := 13) d_M_most_6 (by decide) (fun hb => ?_) (fun hb => ?_)
  · refine tk_iconst (pc := 13) (v := 0) d_M_most_13 (by decide) ?_
    refine tk_iload_n (pc := 14) d_M_most_14 rfl ?_
    refine tk_i2l (pc := 15) d_M_most_15 ?_
    refine tk_lconst (pc := 16) (v := 0) d_M_most_16 (by decide) ?_
    refine tk_ldc2 (pc := 17) d_M_most_17 q_M_95 ?_
    refine tk_callSr (pc := 20) d_M_most_20 l_M_63 k_M_in (m_in_no (x := a) (lo := 0) (hi := 30) rfl rfl ha) rfl (by omega) (Nat.le_of_ble_eq_true rfl) (Nat.le_of_ble_eq_true rfl) (Nat.le_of_ble_eq_true rfl) rfl rfl ?_
    refine tk_if_ne (pc := 23) (tgt := 30) d_M_most_23 (by decide) (fun hc => ?_) (fun hc => ?_)
    · exact absurd rfl hc
    refine tk_iconst (pc := 26) (v := 1) d_M_most_26 (by decide) ?_
    refine tk_goto (pc := 27) (tgt := 31) d_M_most_27 (by decide) ?_
    refine tk_iconst (pc := 31) (v := 0) d_M_most_31 (by decide) ?_
    refine tk_callVr (pc := 32) d_M_most_32 l_M_76 k_M_throwing rfl rfl rfl (m_t2 (z := 0)) rfl (by omega) (Nat.le_of_ble_eq_true rfl) (Nat.le_of_ble_eq_true rfl) (Nat.le_of_ble_eq_true rfl) rfl rfl ?_
    refine tk_if_eq (pc := 35) (tgt := 39) d_M_most_35 (by decide) (fun hd => ?_) (fun hd => ?_)
    · exact absurd hd (by decide)
    exact tk_return (pc := 38) d_M_most_38 rfl (Nat.le_of_ble_eq_true rfl) (Nat.le_of_ble_eq_true rfl) ⟨rfl, rfl⟩
  · exact absurd hb (by decide)
theorem r_most_0 {i : Nat} {a : Int32} (hn' : n < 5) (hi : i < n) (ha : ¬ (a < 0 ∨ 30 < a)) : tk_M y_M_most w_M_most 10 0 0 [.ref 29, .int (nI i), .int a] (wd g h p c (md th gn mk mc ms ml ma mb (nI n) le gr mo hl hu pc pl aq sp st nw br o)) (tk_det (.inl none) (wd g h p c (md 0 gn mk mc ms ml ma mb (nI n) le gr (upd mo i a) hl hu pc pl aq sp st nw br o))) := by
  refine tk_M.of (lv := [some (.ref 29), some (.int (nI i)), some (.int a)]) (by decide) (Nat.le_of_ble_eq_true rfl) rfl ?_
  refine tk_aload_n (pc := 0) d_M_most_0 rfl ?_
  refine tk_aload_n (pc := 1) d_M_most_1 rfl ?_
  refine tk_iload_n (pc := 2) d_M_most_2 rfl ?_
  refine tk_callVr (pc := 3) d_M_most_3 l_M_92 k_M_isHeat rfl rfl rfl (m_isHeat_y hi (by omega)) rfl (by omega) (Nat.le_of_ble_eq_true rfl) (Nat.le_of_ble_eq_true rfl) (Nat.le_of_ble_eq_true rfl) rfl rfl ?_
  refine tk_if_ne (pc := 6) (tgt := 13) d_M_most_6 (by decide) (fun hb => ?_) (fun hb => ?_)
  · refine tk_iconst (pc := 13) (v := 0) d_M_most_13 (by decide) ?_
    refine tk_iload_n (pc := 14) d_M_most_14 rfl ?_
    refine tk_i2l (pc := 15) d_M_most_15 ?_
    refine tk_lconst (pc := 16) (v := 0) d_M_most_16 (by decide) ?_
    refine tk_ldc2 (pc := 17) d_M_most_17 q_M_95 ?_
    refine tk_callSr (pc := 20) d_M_most_20 l_M_63 k_M_in (m_in_yes (x := a) (lo := 0) (hi := 30) rfl rfl ha) rfl (by omega) (Nat.le_of_ble_eq_true rfl) (Nat.le_of_ble_eq_true rfl) (Nat.le_of_ble_eq_true rfl) rfl rfl ?_
    refine tk_if_ne (pc := 23) (tgt := 30) d_M_most_23 (by decide) (fun hc => ?_) (fun hc => ?_)
    · refine tk_iconst (pc := 30) (v := 0) d_M_most_30 (by decide) ?_
      refine tk_iconst (pc := 31) (v := 0) d_M_most_31 (by decide) ?_
      refine tk_callVr (pc := 32) d_M_most_32 l_M_76 k_M_throwing rfl rfl rfl (m_t0) rfl (by omega) (Nat.le_of_ble_eq_true rfl) (Nat.le_of_ble_eq_true rfl) (Nat.le_of_ble_eq_true rfl) rfl rfl ?_
      refine tk_if_eq (pc := 35) (tgt := 39) d_M_most_35 (by decide) (fun hd => ?_) (fun hd => ?_)
      · refine tk_aload_n (pc := 39) d_M_most_39 rfl ?_
        refine tk_get (pc := 40) d_M_most_40 f_M_34 rfl rfl ?_
        refine tk_iload_n (pc := 43) d_M_most_43 rfl ?_
        refine tk_iload_n (pc := 44) d_M_most_44 rfl ?_
        refine tk_iast (pc := 45) i d_M_most_45 rfl rfl (by omega) (by decide) ?_
        exact tk_return (pc := 46) d_M_most_46 rfl (Nat.le_of_ble_eq_true rfl) (Nat.le_of_ble_eq_true rfl) ⟨rfl, rfl⟩
      · exact absurd rfl hd
    · exact absurd hc (by decide)
  · exact absurd hb (by decide)
theorem r_stock_1 {i : Int32} (hn' : n < 100) (hi : i < 0 ∨ ¬ i < nI n) : tk_M y_M_stock w_M_stock 10 0 0 [.ref 29, .int i] (wd g h p c (md th (nI n) mk mc ms ml ma mb hn le gr mo hl hu pc pl aq sp st nw br o)) (tk_det (.inl (some (.int 0))) (wd g h p c (md 1 (nI n) mk mc ms ml ma mb hn le gr mo hl hu pc pl aq sp st nw br o))) := by
  refine tk_M.of (lv := [some (.ref 29), some (.int i)]) (by decide) (Nat.le_of_ble_eq_true rfl) rfl ?_
  refine tk_aload_n (pc := 0) d_M_stock_0 rfl ?_
  refine tk_aload_n (pc := 1) d_M_stock_1 rfl ?_
  refine tk_iload_n (pc := 2) d_M_stock_2 rfl ?_
  refine tk_callVr (pc := 3) d_M_stock_3 l_M_82 k_M_isGood rfl rfl rfl (m_isGood_n hi hn') rfl (by omega) (Nat.le_of_ble_eq_true rfl) (Nat.le_of_ble_eq_true rfl) (Nat.le_of_ble_eq_true rfl) rfl rfl ?_
  refine tk_if_ne (pc := 6) (tgt := 13) d_M_stock_6 (by decide) (fun hb => ?_) (fun hb => ?_)
  · exact absurd rfl hb
  refine tk_iconst (pc := 9) (v := 1) d_M_stock_9 (by decide) ?_
  refine tk_goto (pc := 10) (tgt := 14) d_M_stock_10 (by decide) ?_
  refine tk_iconst (pc := 14) (v := 0) d_M_stock_14 (by decide) ?_
  refine tk_iconst (pc := 15) (v := 0) d_M_stock_15 (by decide) ?_
  refine tk_callVr (pc := 16) d_M_stock_16 l_M_76 k_M_throwing rfl rfl rfl (m_t1 (y := 0) (z := 0)) rfl (by omega) (Nat.le_of_ble_eq_true rfl) (Nat.le_of_ble_eq_true rfl) (Nat.le_of_ble_eq_true rfl) rfl rfl ?_
  refine tk_if_eq (pc := 19) (tgt := 24) d_M_stock_19 (by decide) (fun hb => ?_) (fun hb => ?_)
  · exact absurd hb (by decide)
  refine tk_iconst (pc := 22) (v := 0) d_M_stock_22 (by decide) ?_
  exact tk_ireturn (pc := 23) d_M_stock_23 rfl rfl (Nat.le_of_ble_eq_true rfl) (Nat.le_of_ble_eq_true rfl) ⟨rfl, rfl⟩
theorem r_stock_0 {i : Nat} (hn' : n < 6) (hi : i < n) : tk_M y_M_stock w_M_stock 10 0 0 [.ref 29, .int (nI i)] (wd g h p c (md th (nI n) mk mc ms ml ma mb hn le gr mo hl hu pc pl aq sp st nw br o)) (tk_det (.inl (some (.int (ms i)))) (wd g h p c (md 0 (nI n) mk mc ms ml ma mb hn le gr mo hl hu pc pl aq sp st nw br o))) := by
  refine tk_M.of (lv := [some (.ref 29), some (.int (nI i))]) (by decide) (Nat.le_of_ble_eq_true rfl) rfl ?_
  refine tk_aload_n (pc := 0) d_M_stock_0 rfl ?_
  refine tk_aload_n (pc := 1) d_M_stock_1 rfl ?_
  refine tk_iload_n (pc := 2) d_M_stock_2 rfl ?_
  refine tk_callVr (pc := 3) d_M_stock_3 l_M_82 k_M_isGood rfl rfl rfl (m_isGood_y hi (by omega)) rfl (by omega) (Nat.le_of_ble_eq_true rfl) (Nat.le_of_ble_eq_true rfl) (Nat.le_of_ble_eq_true rfl) rfl rfl ?_
  refine tk_if_ne (pc := 6) (tgt := 13) d_M_stock_6 (by decide) (fun hb => ?_) (fun hb => ?_)
  · refine tk_iconst (pc := 13) (v := 0) d_M_stock_13 (by decide) ?_
    refine tk_iconst (pc := 14) (v := 0) d_M_stock_14 (by decide) ?_
    refine tk_iconst (pc := 15) (v := 0) d_M_stock_15 (by decide) ?_
    refine tk_callVr (pc := 16) d_M_stock_16 l_M_76 k_M_throwing rfl rfl rfl (m_t0) rfl (by omega) (Nat.le_of_ble_eq_true rfl) (Nat.le_of_ble_eq_true rfl) (Nat.le_of_ble_eq_true rfl) rfl rfl ?_
    refine tk_if_eq (pc := 19) (tgt := 24) d_M_stock_19 (by decide) (fun hc => ?_) (fun hc => ?_)
    · refine tk_aload_n (pc := 24) d_M_stock_24 rfl ?_
      refine tk_get (pc := 25) d_M_stock_25 f_M_16 rfl rfl ?_
      refine tk_iload_n (pc := 28) d_M_stock_28 rfl ?_
      refine tk_iald (pc := 29) i d_M_stock_29 rfl rfl (by omega) (by decide) ?_
      exact tk_ireturn (pc := 30) d_M_stock_30 rfl rfl (Nat.le_of_ble_eq_true rfl) (Nat.le_of_ble_eq_true rfl) ⟨rfl, rfl⟩
    · exact absurd rfl hc
  · exact absurd hb (by decide)
theorem r_arrive_1 {i a : Int32} (hn' : n < 100) (hi : i < 0 ∨ ¬ i < nI n) : tk_M y_M_arrive w_M_arrive 10 0 0 [.ref 29, .int i, .int a] (wd g h p c (md th (nI n) mk mc ms ml ma mb hn le gr mo hl hu pc pl aq sp st nw br o)) (tk_det (.inl (some (.int 0))) (wd g h p c (md 1 (nI n) mk mc ms ml ma mb hn le gr mo hl hu pc pl aq sp st nw br o))) := by
  refine tk_M.of (lv := [some (.ref 29), some (.int i), some (.int a), none]) (by decide) (Nat.le_of_ble_eq_true rfl) rfl ?_
  refine tk_aload_n (pc := 0) d_M_arrive_0 rfl ?_
  refine tk_iload_n (pc := 1) d_M_arrive_1 rfl ?_
  refine tk_callVr (pc := 2) d_M_arrive_2 l_M_82 k_M_isGood rfl rfl rfl (m_isGood_n hi hn') rfl (by omega) (Nat.le_of_ble_eq_true rfl) (Nat.le_of_ble_eq_true rfl) (Nat.le_of_ble_eq_true rfl) rfl rfl ?_
  refine tk_if_ne (pc := 5) (tgt := 12) d_M_arrive_5 (by decide) (fun hb => ?_) (fun hb => ?_)
  · exact absurd rfl hb
  refine tk_iconst (pc := 8) (v := 1) d_M_arrive_8 (by decide) ?_
  refine tk_goto (pc := 9) (tgt := 13) d_M_arrive_9 (by decide) ?_
  refine tk_istore3 (pc := 13) d_M_arrive_13 rfl (by decide) ?_
  refine tk_aload_n (pc := 14) d_M_arrive_14 rfl ?_
  refine tk_iload_n (pc := 15) d_M_arrive_15 rfl ?_
  refine tk_iload_n (pc := 16) d_M_arrive_16 rfl ?_
  have tail : ∀ v : Int32, tk_T y_M_arrive c_M_arrive 4 (some .int) [] 10 0 0 (fun _ => none) 0 0 (tk_det (.inl (some (.int 0))) (wd g h p c (md 1 (nI n) mk mc ms ml ma mb hn le gr mo hl hu pc pl aq sp st nw br o))) 25 [some (.ref 29), some (.int i), some (.int a), some (.int 1)] [.int v, .int 1, .ref 29] (wd g h p c (md th (nI n) mk mc ms ml ma mb hn le gr mo hl hu pc pl aq sp st nw br o)) := by
    intro v
    refine tk_iload_n (pc := 25) d_M_arrive_25 rfl ?_
    refine tk_if_ne (pc := 26) (tgt := 54) d_M_arrive_26 (by decide) (fun hc => ?_) (fun hc => ?_)
    · refine tk_iconst (pc := 54) (v := 0) d_M_arrive_54 (by decide) ?_
      refine tk_callVr (pc := 55) d_M_arrive_55 l_M_76 k_M_throwing rfl rfl rfl (m_t1 (y := v) (z := 0)) rfl (by omega) (Nat.le_of_ble_eq_true rfl) (Nat.le_of_ble_eq_true rfl) (Nat.le_of_ble_eq_true rfl) rfl rfl ?_
      refine tk_if_eq (pc := 58) (tgt := 63) d_M_arrive_58 (by decide) (fun hb => ?_) (fun hb => ?_)
      · exact absurd hb (by decide)
      refine tk_iconst (pc := 61) (v := 0) d_M_arrive_61 (by decide) ?_
      exact tk_ireturn (pc := 62) d_M_arrive_62 rfl rfl (Nat.le_of_ble_eq_true rfl) (Nat.le_of_ble_eq_true rfl) ⟨rfl, rfl⟩
    · exact absurd hc (by decide)
  refine tk_if_ge (pc := 17) (tgt := 24) d_M_arrive_17 (by decide) (fun hc => ?_) (fun hc => ?_)
  · refine tk_iconst (pc := 24) (v := 0) d_M_arrive_24 (by decide) ?_
    exact tail 0
  · refine tk_iconst (pc := 20) (v := 1) d_M_arrive_20 (by decide) ?_
    refine tk_goto (pc := 21) (tgt := 25) d_M_arrive_21 (by decide) ?_
    exact tail 1
theorem r_arrive_2 {i : Nat} {a : Int32} (hn' : n < 6) (hi : i < n) (ha : a < 0) : tk_M y_M_arrive w_M_arrive 10 0 0 [.ref 29, .int (nI i), .int a] (wd g h p c (md th (nI n) mk mc ms ml ma mb hn le gr mo hl hu pc pl aq sp st nw br o)) (tk_det (.inl (some (.int 0))) (wd g h p c (md 2 (nI n) mk mc ms ml ma mb hn le gr mo hl hu pc pl aq sp st nw br o))) := by
  refine tk_M.of (lv := [some (.ref 29), some (.int (nI i)), some (.int a), none]) (by decide) (Nat.le_of_ble_eq_true rfl) rfl ?_
  refine tk_aload_n (pc := 0) d_M_arrive_0 rfl ?_
  refine tk_iload_n (pc := 1) d_M_arrive_1 rfl ?_
  refine tk_callVr (pc := 2) d_M_arrive_2 l_M_82 k_M_isGood rfl rfl rfl (m_isGood_y hi (by omega)) rfl (by omega) (Nat.le_of_ble_eq_true rfl) (Nat.le_of_ble_eq_true rfl) (Nat.le_of_ble_eq_true rfl) rfl rfl ?_
  refine tk_if_ne (pc := 5) (tgt := 12) d_M_arrive_5 (by decide) (fun hb => ?_) (fun hb => ?_)
  · refine tk_iconst (pc := 12) (v := 0) d_M_arrive_12 (by decide) ?_
    refine tk_istore3 (pc := 13) d_M_arrive_13 rfl (by decide) ?_
    refine tk_aload_n (pc := 14) d_M_arrive_14 rfl ?_
    refine tk_iload_n (pc := 15) d_M_arrive_15 rfl ?_
    refine tk_iload_n (pc := 16) d_M_arrive_16 rfl ?_
    refine tk_if_ge (pc := 17) (tgt := 24) d_M_arrive_17 (by decide) (fun hc => ?_) (fun hc => ?_)
    · exact absurd ha (by rw [Int32.not_lt]; exact hc)
    refine tk_iconst (pc := 20) (v := 1) d_M_arrive_20 (by decide) ?_
    refine tk_goto (pc := 21) (tgt := 25) d_M_arrive_21 (by decide) ?_
    have tail : ∀ v : Int32, tk_T y_M_arrive c_M_arrive 4 (some .int) [] 10 0 0 (fun _ => none) 0 0 (tk_det (.inl (some (.int 0))) (wd g h p c (md 2 (nI n) mk mc ms ml ma mb hn le gr mo hl hu pc pl aq sp st nw br o))) 55 [some (.ref 29), some (.int (nI i)), some (.int a), some (.int 0)] [.int v, .int 1, .int 0, .ref 29] (wd g h p c (md th (nI n) mk mc ms ml ma mb hn le gr mo hl hu pc pl aq sp st nw br o)) := by
      intro v
      refine tk_callVr (pc := 55) d_M_arrive_55 l_M_76 k_M_throwing rfl rfl rfl (m_t2 (z := v)) rfl (by omega) (Nat.le_of_ble_eq_true rfl) (Nat.le_of_ble_eq_true rfl) (Nat.le_of_ble_eq_true rfl) rfl rfl ?_
      refine tk_if_eq (pc := 58) (tgt := 63) d_M_arrive_58 (by decide) (fun hb => ?_) (fun hb => ?_)
      · exact absurd hb (by decide)
      refine tk_iconst (pc := 61) (v := 0) d_M_arrive_61 (by decide) ?_
      exact tk_ireturn (pc := 62) d_M_arrive_62 rfl rfl (Nat.le_of_ble_eq_true rfl) (Nat.le_of_ble_eq_true rfl) ⟨rfl, rfl⟩
    refine tk_iload_n (pc := 25) d_M_arrive_25 rfl ?_
    refine tk_if_ne (pc := 26) (tgt := 54) d_M_arrive_26 (by decide) (fun hd => ?_) (fun hd => ?_)
    · exact absurd rfl hd
    refine tk_iload_n (pc := 29) d_M_arrive_29 rfl ?_
    refine tk_bipush (pc := 30) (v := 6) d_M_arrive_30 (by decide) ?_
    refine tk_aload_n (pc := 32) d_M_arrive_32 rfl ?_
    refine tk_get (pc := 33) d_M_arrive_33 f_M_16 rfl rfl ?_
    refine tk_iload_n (pc := 36) d_M_arrive_36 rfl ?_
    refine tk_if_eq (pc := 37) (tgt := 44) d_M_arrive_37 (by decide) (fun he => ?_) (fun he => ?_)
    · refine tk_iload_n (pc := 44) d_M_arrive_44 rfl ?_
      refine tk_iald (pc := 45) i d_M_arrive_45 rfl rfl (by omega) (by decide) ?_
      refine tk_isub (pc := 46) d_M_arrive_46 ?_
      refine tk_icmp_le (pc := 47) (tgt := 54) d_M_arrive_47 (by decide) (fun hf => ?_) (fun hf => ?_)
      · refine tk_iconst (pc := 54) (v := 0) d_M_arrive_54 (by decide) ?_
        exact tail 0
      · refine tk_iconst (pc := 50) (v := 1) d_M_arrive_50 (by decide) ?_
        refine tk_goto (pc := 51) (tgt := 55) d_M_arrive_51 (by decide) ?_
        exact tail 1
    · exact absurd rfl he
  · exact absurd hb (by decide)
theorem r_arrive_3 {i : Nat} {a : Int32} (hn' : n < 6) (hi : i < n) (ha : ¬ a < 0) (hm : 6 - ms i < a) : tk_M y_M_arrive w_M_arrive 10 0 0 [.ref 29, .int (nI i), .int a] (wd g h p c (md th (nI n) mk mc ms ml ma mb hn le gr mo hl hu pc pl aq sp st nw br o)) (tk_det (.inl (some (.int 0))) (wd g h p c (md 3 (nI n) mk mc ms ml ma mb hn le gr mo hl hu pc pl aq sp st nw br o))) := by
  refine tk_M.of (lv := [some (.ref 29), some (.int (nI i)), some (.int a), none]) (by decide) (Nat.le_of_ble_eq_true rfl) rfl ?_
  refine tk_aload_n (pc := 0) d_M_arrive_0 rfl ?_
  refine tk_iload_n (pc := 1) d_M_arrive_1 rfl ?_
  refine tk_callVr (pc := 2) d_M_arrive_2 l_M_82 k_M_isGood rfl rfl rfl (m_isGood_y hi (by omega)) rfl (by omega) (Nat.le_of_ble_eq_true rfl) (Nat.le_of_ble_eq_true rfl) (Nat.le_of_ble_eq_true rfl) rfl rfl ?_
  refine tk_if_ne (pc := 5) (tgt := 12) d_M_arrive_5 (by decide) (fun hb => ?_) (fun hb => ?_)
  · refine tk_iconst (pc := 12) (v := 0) d_M_arrive_12 (by decide) ?_
    refine tk_istore3 (pc := 13) d_M_arrive_13 rfl (by decide) ?_
    refine tk_aload_n (pc := 14) d_M_arrive_14 rfl ?_
    refine tk_iload_n (pc := 15) d_M_arrive_15 rfl ?_
    refine tk_iload_n (pc := 16) d_M_arrive_16 rfl ?_
    refine tk_if_ge (pc := 17) (tgt := 24) d_M_arrive_17 (by decide) (fun hc => ?_) (fun hc => ?_)
    · refine tk_iconst (pc := 24) (v := 0) d_M_arrive_24 (by decide) ?_
      refine tk_iload_n (pc := 25) d_M_arrive_25 rfl ?_
      refine tk_if_ne (pc := 26) (tgt := 54) d_M_arrive_26 (by decide) (fun hd => ?_) (fun hd => ?_)
      · exact absurd rfl hd
      refine tk_iload_n (pc := 29) d_M_arrive_29 rfl ?_
      refine tk_bipush (pc := 30) (v := 6) d_M_arrive_30 (by decide) ?_
      refine tk_aload_n (pc := 32) d_M_arrive_32 rfl ?_
      refine tk_get (pc := 33) d_M_arrive_33 f_M_16 rfl rfl ?_
      refine tk_iload_n (pc := 36) d_M_arrive_36 rfl ?_
      refine tk_if_eq (pc := 37) (tgt := 44) d_M_arrive_37 (by decide) (fun he => ?_) (fun he => ?_)
      · refine tk_iload_n (pc := 44) d_M_arrive_44 rfl ?_
        refine tk_iald (pc := 45) i d_M_arrive_45 rfl rfl (by omega) (by decide) ?_
        refine tk_isub (pc := 46) d_M_arrive_46 ?_
        refine tk_icmp_le (pc := 47) (tgt := 54) d_M_arrive_47 (by decide) (fun hf => ?_) (fun hf => ?_)
        · exact absurd hm (by rw [Int32.not_lt]; exact hf)
        · refine tk_iconst (pc := 50) (v := 1) d_M_arrive_50 (by decide) ?_
          refine tk_goto (pc := 51) (tgt := 55) d_M_arrive_51 (by decide) ?_
          refine tk_callVr (pc := 55) d_M_arrive_55 l_M_76 k_M_throwing rfl rfl rfl (m_t3) rfl (by omega) (Nat.le_of_ble_eq_true rfl) (Nat.le_of_ble_eq_true rfl) (Nat.le_of_ble_eq_true rfl) rfl rfl ?_
          refine tk_if_eq (pc := 58) (tgt := 63) d_M_arrive_58 (by decide) (fun hg => ?_) (fun hg => ?_)
          · exact absurd hg (by decide)
          refine tk_iconst (pc := 61) (v := 0) d_M_arrive_61 (by decide) ?_
          exact tk_ireturn (pc := 62) d_M_arrive_62 rfl rfl (Nat.le_of_ble_eq_true rfl) (Nat.le_of_ble_eq_true rfl) ⟨rfl, rfl⟩
      · exact absurd rfl he
    · exact absurd (by rw [← Int32.not_lt]; exact ha) hc
  · exact absurd hb (by decide)
theorem r_arrive_0 {i : Nat} {a : Int32} (hn' : n < 6) (hi : i < n) (ha : ¬ a < 0) (hm : ¬ 6 - ms i < a) : tk_M y_M_arrive w_M_arrive 10 0 0 [.ref 29, .int (nI i), .int a] (wd g h p c (md th (nI n) mk mc ms ml ma mb hn le gr mo hl hu pc pl aq sp st nw br o)) (tk_det (.inl (some (.int (ms i + a)))) (wd g h p c (md 0 (nI n) mk mc (upd ms i (ms i + a)) ml ma mb hn le gr mo hl hu pc pl aq sp st nw br o))) := by
  refine tk_M.of (lv := [some (.ref 29), some (.int (nI i)), some (.int a), none]) (by decide) (Nat.le_of_ble_eq_true rfl) rfl ?_
  refine tk_aload_n (pc := 0) d_M_arrive_0 rfl ?_
  refine tk_iload_n (pc := 1) d_M_arrive_1 rfl ?_
  refine tk_callVr (pc := 2) d_M_arrive_2 l_M_82 k_M_isGood rfl rfl rfl (m_isGood_y hi (by omega)) rfl (by omega) (Nat.le_of_ble_eq_true rfl) (Nat.le_of_ble_eq_true rfl) (Nat.le_of_ble_eq_true rfl) rfl rfl ?_
  refine tk_if_ne (pc := 5) (tgt := 12) d_M_arrive_5 (by decide) (fun hb => ?_) (fun hb => ?_)
  · refine tk_iconst (pc := 12) (v := 0) d_M_arrive_12 (by decide) ?_
    refine tk_istore3 (pc := 13) d_M_arrive_13 rfl (by decide) ?_
    refine tk_aload_n (pc := 14) d_M_arrive_14 rfl ?_
    refine tk_iload_n (pc := 15) d_M_arrive_15 rfl ?_
    refine tk_iload_n (pc := 16) d_M_arrive_16 rfl ?_
    refine tk_if_ge (pc := 17) (tgt := 24) d_M_arrive_17 (by decide) (fun hc => ?_) (fun hc => ?_)
    · refine tk_iconst (pc := 24) (v := 0) d_M_arrive_24 (by decide) ?_
      refine tk_iload_n (pc := 25) d_M_arrive_25 rfl ?_
      refine tk_if_ne (pc := 26) (tgt := 54) d_M_arrive_26 (by decide) (fun hd => ?_) (fun hd => ?_)
      · exact absurd rfl hd
      refine tk_iload_n (pc := 29) d_M_arrive_29 rfl ?_
      refine tk_bipush (pc := 30) (v := 6) d_M_arrive_30 (by decide) ?_
      refine tk_aload_n (pc := 32) d_M_arrive_32 rfl ?_
      refine tk_get (pc := 33) d_M_arrive_33 f_M_16 rfl rfl ?_
      refine tk_iload_n (pc := 36) d_M_arrive_36 rfl ?_
      refine tk_if_eq (pc := 37) (tgt := 44) d_M_arrive_37 (by decide) (fun he => ?_) (fun he => ?_)
      · refine tk_iload_n (pc := 44) d_M_arrive_44 rfl ?_
        refine tk_iald (pc := 45) i d_M_arrive_45 rfl rfl (by omega) (by decide) ?_
        refine tk_isub (pc := 46) d_M_arrive_46 ?_
        refine tk_icmp_le (pc := 47) (tgt := 54) d_M_arrive_47 (by decide) (fun hf => ?_) (fun hf => ?_)
        · refine tk_iconst (pc := 54) (v := 0) d_M_arrive_54 (by decide) ?_
          refine tk_callVr (pc := 55) d_M_arrive_55 l_M_76 k_M_throwing rfl rfl rfl (m_t0) rfl (by omega) (Nat.le_of_ble_eq_true rfl) (Nat.le_of_ble_eq_true rfl) (Nat.le_of_ble_eq_true rfl) rfl rfl ?_
          refine tk_if_eq (pc := 58) (tgt := 63) d_M_arrive_58 (by decide) (fun hg => ?_) (fun hg => ?_)
          · refine tk_aload_n (pc := 63) d_M_arrive_63 rfl ?_
            refine tk_get (pc := 64) d_M_arrive_64 f_M_16 rfl rfl ?_
            refine tk_iload_n (pc := 67) d_M_arrive_67 rfl ?_
            refine tk_dup2 (pc := 68) d_M_arrive_68 rfl rfl ?_
            refine tk_iald (pc := 69) i d_M_arrive_69 rfl rfl (by omega) (by decide) ?_
            refine tk_iload_n (pc := 70) d_M_arrive_70 rfl ?_
            refine tk_iadd (pc := 71) d_M_arrive_71 ?_
            refine tk_iast (pc := 72) i d_M_arrive_72 rfl rfl (by omega) (by decide) ?_
            refine tk_aload_n (pc := 73) d_M_arrive_73 rfl ?_
            refine tk_get (pc := 74) d_M_arrive_74 f_M_16 rfl rfl ?_
            refine tk_iload_n (pc := 77) d_M_arrive_77 rfl ?_
            refine tk_iald (pc := 78) i d_M_arrive_78 rfl rfl (by omega) (by decide) ?_
            exact tk_ireturn (pc := 79) d_M_arrive_79 rfl rfl (Nat.le_of_ble_eq_true rfl) (Nat.le_of_ble_eq_true rfl) ⟨by rw [pk_us], rfl⟩
          · exact absurd rfl hg
        · exact absurd (by rw [← Int32.not_lt]; exact hm) hf
      · exact absurd rfl he
    · exact absurd (by rw [← Int32.not_lt]; exact ha) hc
  · exact absurd hb (by decide)
theorem r_heat_1 {a b : Int32} : tk_M y_M_heat w_M_heat 10 0 0 [.ref 29, .int a, .int b] (wd g h p c (md th gn mk mc ms ml ma mb (nI 4) le gr mo hl hu pc pl aq sp st nw br o)) (tk_det (.inl (some (.int 0))) (wd g h p c (md 1 gn mk mc ms ml ma mb (nI 4) le gr mo hl hu pc pl aq sp st nw br o))) := by
  refine tk_M.of (lv := [some (.ref 29), some (.int a), some (.int b), none]) (by decide) (Nat.le_of_ble_eq_true rfl) rfl ?_
  have tail : ∀ v : Int32, tk_T y_M_heat c_M_heat 4 (some .int) [] 10 0 0 (fun _ => none) 0 0 (tk_det (.inl (some (.int 0))) (wd g h p c (md 1 gn mk mc ms ml ma mb (nI 4) le gr mo hl hu pc pl aq sp st nw br o))) 44 [some (.ref 29), some (.int a), some (.int b), none] [.int v, .int 1, .ref 29] (wd g h p c (md th gn mk mc ms ml ma mb (nI 4) le gr mo hl hu pc pl aq sp st nw br o)) := by
    intro v
    refine tk_iconst (pc := 44) (v := 0) d_M_heat_44 (by decide) ?_
    refine tk_callVr (pc := 45) d_M_heat_45 l_M_76 k_M_throwing rfl rfl rfl (m_t1 (y := v) (z := 0)) rfl (by omega) (Nat.le_of_ble_eq_true rfl) (Nat.le_of_ble_eq_true rfl) (Nat.le_of_ble_eq_true rfl) rfl rfl ?_
    refine tk_if_eq (pc := 48) (tgt := 53) d_M_heat_48 (by decide) (fun hb => ?_) (fun hb => ?_)
    · exact absurd hb (by decide)
    refine tk_iconst (pc := 51) (v := 0) d_M_heat_51 (by decide) ?_
    exact tk_ireturn (pc := 52) d_M_heat_52 rfl rfl (Nat.le_of_ble_eq_true rfl) (Nat.le_of_ble_eq_true rfl) ⟨rfl, rfl⟩
  refine tk_aload_n (pc := 0) d_M_heat_0 rfl ?_
  refine tk_aload_n (pc := 1) d_M_heat_1 rfl ?_
  refine tk_get (pc := 2) d_M_heat_2 f_M_67 rfl rfl ?_
  refine tk_iconst (pc := 5) (v := 4) d_M_heat_5 (by decide) ?_
  refine tk_icmp_ne (pc := 6) (tgt := 13) d_M_heat_6 (by decide) (fun hb => ?_) (fun hb => ?_)
  · exact absurd (show nI 4 = 4 from rfl) hb
  refine tk_iconst (pc := 9) (v := 1) d_M_heat_9 (by decide) ?_
  refine tk_goto (pc := 10) (tgt := 14) d_M_heat_10 (by decide) ?_
  refine tk_iload_n (pc := 14) d_M_heat_14 rfl ?_
  refine tk_i2l (pc := 15) d_M_heat_15 ?_
  refine tk_lconst (pc := 16) (v := 1) d_M_heat_16 (by decide) ?_
  refine tk_ldc2 (pc := 17) d_M_heat_17 q_M_72 ?_
  refine tk_callSr (pc := 20) d_M_heat_20 l_M_63 k_M_in (m_inI (x := a) (lo := 1) (hi := 100000) rfl rfl) rfl (by omega) (Nat.le_of_ble_eq_true rfl) (Nat.le_of_ble_eq_true rfl) (Nat.le_of_ble_eq_true rfl) rfl rfl ?_
  refine tk_if_eq (pc := 23) (tgt := 39) d_M_heat_23 (by decide) (fun hb => ?_) (fun hb => ?_)
  · refine tk_iconst (pc := 39) (v := 1) d_M_heat_39 (by decide) ?_
    refine tk_goto (pc := 40) (tgt := 44) d_M_heat_40 (by decide) ?_
    exact tail 1
  refine tk_iload_n (pc := 26) d_M_heat_26 rfl ?_
  refine tk_i2l (pc := 27) d_M_heat_27 ?_
  refine tk_iload_n (pc := 28) d_M_heat_28 rfl ?_
  refine tk_i2l (pc := 29) d_M_heat_29 ?_
  refine tk_ldc2 (pc := 30) d_M_heat_30 q_M_72 ?_
  refine tk_callSr (pc := 33) d_M_heat_33 l_M_63 k_M_in (m_inI (x := b) (lo := a) (hi := 100000) rfl rfl) rfl (by omega) (Nat.le_of_ble_eq_true rfl) (Nat.le_of_ble_eq_true rfl) (Nat.le_of_ble_eq_true rfl) rfl rfl ?_
  refine tk_if_ne (pc := 36) (tgt := 43) d_M_heat_36 (by decide) (fun hb => ?_) (fun hb => ?_)
  · refine tk_iconst (pc := 43) (v := 0) d_M_heat_43 (by decide) ?_
    exact tail 0
  · refine tk_iconst (pc := 39) (v := 1) d_M_heat_39 (by decide) ?_
    refine tk_goto (pc := 40) (tgt := 44) d_M_heat_40 (by decide) ?_
    exact tail 1
theorem r_heat_2 {a b : Int32} (hn' : n < 4) (hbad : (a < 1 ∨ 100000 < a) ∨ (b < a ∨ 100000 < b)) : tk_M y_M_heat w_M_heat 10 0 0 [.ref 29, .int a, .int b] (wd g h p c (md th gn mk mc ms ml ma mb (nI n) le gr mo hl hu pc pl aq sp st nw br o)) (tk_det (.inl (some (.int 0))) (wd g h p c (md 2 gn mk mc ms ml ma mb (nI n) le gr mo hl hu pc pl aq sp st nw br o))) := by
  refine tk_M.of (lv := [some (.ref 29), some (.int a), some (.int b), none]) (by decide) (Nat.le_of_ble_eq_true rfl) rfl ?_
  have tail : tk_T y_M_heat c_M_heat 4 (some .int) [] 10 0 0 (fun _ => none) 0 0 (tk_det (.inl (some (.int 0))) (wd g h p c (md 2 gn mk mc ms ml ma mb (nI n) le gr mo hl hu pc pl aq sp st nw br o))) 39 [some (.ref 29), some (.int a), some (.int b), none] [.int 0, .ref 29] (wd g h p c (md th gn mk mc ms ml ma mb (nI n) le gr mo hl hu pc pl aq sp st nw br o)) := by
    refine tk_iconst (pc := 39) (v := 1) d_M_heat_39 (by decide) ?_
    refine tk_goto (pc := 40) (tgt := 44) d_M_heat_40 (by decide) ?_
    refine tk_iconst (pc := 44) (v := 0) d_M_heat_44 (by decide) ?_
    refine tk_callVr (pc := 45) d_M_heat_45 l_M_76 k_M_throwing rfl rfl rfl (m_t2 (z := 0)) rfl (by omega) (Nat.le_of_ble_eq_true rfl) (Nat.le_of_ble_eq_true rfl) (Nat.le_of_ble_eq_true rfl) rfl rfl ?_
    refine tk_if_eq (pc := 48) (tgt := 53) d_M_heat_48 (by decide) (fun hb => ?_) (fun hb => ?_)
    · exact absurd hb (by decide)
    refine tk_iconst (pc := 51) (v := 0) d_M_heat_51 (by decide) ?_
    exact tk_ireturn (pc := 52) d_M_heat_52 rfl rfl (Nat.le_of_ble_eq_true rfl) (Nat.le_of_ble_eq_true rfl) ⟨rfl, rfl⟩
  refine tk_aload_n (pc := 0) d_M_heat_0 rfl ?_
  refine tk_aload_n (pc := 1) d_M_heat_1 rfl ?_
  refine tk_get (pc := 2) d_M_heat_2 f_M_67 rfl rfl ?_
  refine tk_iconst (pc := 5) (v := 4) d_M_heat_5 (by decide) ?_
  refine tk_icmp_ne (pc := 6) (tgt := 13) d_M_heat_6 (by decide) (fun hb => ?_) (fun hb => ?_)
  · refine tk_iconst (pc := 13) (v := 0) d_M_heat_13 (by decide) ?_
    refine tk_iload_n (pc := 14) d_M_heat_14 rfl ?_
    refine tk_i2l (pc := 15) d_M_heat_15 ?_
    refine tk_lconst (pc := 16) (v := 1) d_M_heat_16 (by decide) ?_
    refine tk_ldc2 (pc := 17) d_M_heat_17 q_M_72 ?_
    by_cases h1 : a < 1 ∨ 100000 < a
    · refine tk_callSr (pc := 20) d_M_heat_20 l_M_63 k_M_in (m_in_no (x := a) (lo := 1) (hi := 100000) rfl rfl h1) rfl (by omega) (Nat.le_of_ble_eq_true rfl) (Nat.le_of_ble_eq_true rfl) (Nat.le_of_ble_eq_true rfl) rfl rfl ?_
      refine tk_if_eq (pc := 23) (tgt := 39) d_M_heat_23 (by decide) (fun hc => ?_) (fun hc => ?_)
      · exact tail
      · exact absurd rfl hc
    refine tk_callSr (pc := 20) d_M_heat_20 l_M_63 k_M_in (m_in_yes (x := a) (lo := 1) (hi := 100000) rfl rfl h1) rfl (by omega) (Nat.le_of_ble_eq_true rfl) (Nat.le_of_ble_eq_true rfl) (Nat.le_of_ble_eq_true rfl) rfl rfl ?_
    refine tk_if_eq (pc := 23) (tgt := 39) d_M_heat_23 (by decide) (fun hc => ?_) (fun hc => ?_)
    · exact absurd hc (by decide)
    refine tk_iload_n (pc := 26) d_M_heat_26 rfl ?_
    refine tk_i2l (pc := 27) d_M_heat_27 ?_
    refine tk_iload_n (pc := 28) d_M_heat_28 rfl ?_
    refine tk_i2l (pc := 29) d_M_heat_29 ?_
    refine tk_ldc2 (pc := 30) d_M_heat_30 q_M_72 ?_
    refine tk_callSr (pc := 33) d_M_heat_33 l_M_63 k_M_in (m_in_no (x := b) (lo := a) (hi := 100000) rfl rfl (hbad.resolve_left h1)) rfl (by omega) (Nat.le_of_ble_eq_true rfl) (Nat.le_of_ble_eq_true rfl) (Nat.le_of_ble_eq_true rfl) rfl rfl ?_
    refine tk_if_ne (pc := 36) (tgt := 43) d_M_heat_36 (by decide) (fun hc => ?_) (fun hc => ?_)
    · exact absurd rfl hc
    · exact tail
  · exact absurd ((nI_eq (b := 4) (by omega) (by omega)).mp hb) (by omega)
theorem r_heat_0 {a b : Int32} (hn' : n < 4) (h1 : ¬ (a < 1 ∨ 100000 < a)) (h2 : ¬ (b < a ∨ 100000 < b)) : tk_M y_M_heat w_M_heat 10 0 0 [.ref 29, .int a, .int b] (wd g h p c (md th gn mk mc ms ml ma mb (nI n) le gr mo hl hu pc pl aq sp st nw br o)) (tk_det (.inl (some (.int (nI n)))) (wd g h p c (md 0 gn mk mc ms ml ma mb (nI (n + 1)) (upd le n a) (upd gr n b) (upd mo n 30) (fil hl (4 * n) 4 0) (fil hu (4 * n) 4 10000) pc pl aq sp st nw br o))) := by
  refine tk_M.of (lv := [some (.ref 29), some (.int a), some (.int b), none]) (by decide) (Nat.le_of_ble_eq_true rfl) rfl ?_
  refine tk_aload_n (pc := 0) d_M_heat_0 rfl ?_
  refine tk_aload_n (pc := 1) d_M_heat_1 rfl ?_
  refine tk_get (pc := 2) d_M_heat_2 f_M_67 rfl rfl ?_
  refine tk_iconst (pc := 5) (v := 4) d_M_heat_5 (by decide) ?_
  refine tk_icmp_ne (pc := 6) (tgt := 13) d_M_heat_6 (by decide) (fun hb => ?_) (fun hb => ?_)
  · refine tk_iconst (pc := 13) (v := 0) d_M_heat_13 (by decide) ?_
    refine tk_iload_n (pc := 14) d_M_heat_14 rfl ?_
    refine tk_i2l (pc := 15) d_M_heat_15 ?_
    refine tk_lconst (pc := 16) (v := 1) d_M_heat_16 (by decide) ?_
    refine tk_ldc2 (pc := 17) d_M_heat_17 q_M_72 ?_
    refine tk_callSr (pc := 20) d_M_heat_20 l_M_63 k_M_in (m_in_yes (x := a) (lo := 1) (hi := 100000) rfl rfl h1) rfl (by omega) (Nat.le_of_ble_eq_true rfl) (Nat.le_of_ble_eq_true rfl) (Nat.le_of_ble_eq_true rfl) rfl rfl ?_
    refine tk_if_eq (pc := 23) (tgt := 39) d_M_heat_23 (by decide) (fun hc => ?_) (fun hc => ?_)
    · exact absurd hc (by decide)
    refine tk_iload_n (pc := 26) d_M_heat_26 rfl ?_
    refine tk_i2l (pc := 27) d_M_heat_27 ?_
    refine tk_iload_n (pc := 28) d_M_heat_28 rfl ?_
    refine tk_i2l (pc := 29) d_M_heat_29 ?_
    refine tk_ldc2 (pc := 30) d_M_heat_30 q_M_72 ?_
    refine tk_callSr (pc := 33) d_M_heat_33 l_M_63 k_M_in (m_in_yes (x := b) (lo := a) (hi := 100000) rfl rfl h2) rfl (by omega) (Nat.le_of_ble_eq_true rfl) (Nat.le_of_ble_eq_true rfl) (Nat.le_of_ble_eq_true rfl) rfl rfl ?_
    refine tk_if_ne (pc := 36) (tgt := 43) d_M_heat_36 (by decide) (fun hc => ?_) (fun hc => ?_)
    · refine tk_iconst (pc := 43) (v := 0) d_M_heat_43 (by decide) ?_
      refine tk_iconst (pc := 44) (v := 0) d_M_heat_44 (by decide) ?_
      refine tk_callVr (pc := 45) d_M_heat_45 l_M_76 k_M_throwing rfl rfl rfl (m_t0) rfl (by omega) (Nat.le_of_ble_eq_true rfl) (Nat.le_of_ble_eq_true rfl) (Nat.le_of_ble_eq_true rfl) rfl rfl ?_
      refine tk_if_eq (pc := 48) (tgt := 53) d_M_heat_48 (by decide) (fun hd => ?_) (fun hd => ?_)
      · refine tk_aload_n (pc := 53) d_M_heat_53 rfl ?_
        refine tk_get (pc := 54) d_M_heat_54 f_M_28 rfl rfl ?_
        refine tk_aload_n (pc := 57) d_M_heat_57 rfl ?_
        refine tk_get (pc := 58) d_M_heat_58 f_M_67 rfl rfl ?_
        refine tk_iload_n (pc := 61) d_M_heat_61 rfl ?_
        refine tk_iast (pc := 62) n d_M_heat_62 rfl rfl hn' (by decide) ?_
        refine tk_aload_n (pc := 63) d_M_heat_63 rfl ?_
        refine tk_get (pc := 64) d_M_heat_64 f_M_31 rfl rfl ?_
        refine tk_aload_n (pc := 67) d_M_heat_67 rfl ?_
        refine tk_get (pc := 68) d_M_heat_68 f_M_67 rfl rfl ?_
        refine tk_iload_n (pc := 71) d_M_heat_71 rfl ?_
        refine tk_iast (pc := 72) n d_M_heat_72 rfl rfl hn' (by decide) ?_
        refine tk_aload_n (pc := 73) d_M_heat_73 rfl ?_
        refine tk_get (pc := 74) d_M_heat_74 f_M_34 rfl rfl ?_
        refine tk_aload_n (pc := 77) d_M_heat_77 rfl ?_
        refine tk_get (pc := 78) d_M_heat_78 f_M_67 rfl rfl ?_
        refine tk_bipush (pc := 81) (v := 30) d_M_heat_81 (by decide) ?_
        refine tk_iast (pc := 83) n d_M_heat_83 rfl rfl hn' (by decide) ?_
        refine tk_iconst (pc := 84) (v := 0) d_M_heat_84 (by decide) ?_
        refine tk_istore3 (pc := 85) d_M_heat_85 rfl (by decide) ?_
        have key : ∀ (m i : Nat), i + m = 4 → tk_T y_M_heat c_M_heat 4 (some .int) [] 10 0 0 (fun _ => none) 0 0 (tk_det (.inl (some (.int (nI n)))) (wd g h p c (md 0 gn mk mc ms ml ma mb (nI (n + 1)) (upd le n a) (upd gr n b) (upd mo n 30) (fil hl (4 * n) 4 0) (fil hu (4 * n) 4 10000) pc pl aq sp st nw br o))) 86 [some (.ref 29), some (.int a), some (.int b), some (.int (nI i))] [] (wd g h p c (md 0 gn mk mc ms ml ma mb (nI n) (upd le n a) (upd gr n b) (upd mo n 30) (fil hl (4 * n) i 0) (fil hu (4 * n) i 10000) pc pl aq sp st nw br o)) := by
          intro m
          induction m with
          | zero =>
            intro i hi'
            obtain rfl : i = 4 := by omega
            refine tk_iload_n (pc := 86) d_M_heat_86 rfl ?_
            refine tk_iconst (pc := 87) (v := 4) d_M_heat_87 (by decide) ?_
            refine tk_icmp_ge (pc := 88) (tgt := 127) d_M_heat_88 (by decide) (fun he => ?_) (fun he => ?_)
            · refine tk_aload_n (pc := 127) d_M_heat_127 rfl ?_
              refine tk_dup (pc := 128) d_M_heat_128 rfl ?_
              refine tk_get (pc := 129) d_M_heat_129 f_M_67 rfl rfl ?_
              refine tk_iconst (pc := 132) (v := 1) d_M_heat_132 (by decide) ?_
              refine tk_iadd (pc := 133) d_M_heat_133 ?_
              refine tk_put (pc := 134) d_M_heat_134 f_M_67 p_M_8 rfl rfl rfl (Nat.le_of_ble_eq_true rfl) rfl ?_
              refine tk_aload_n (pc := 137) d_M_heat_137 rfl ?_
              refine tk_get (pc := 138) d_M_heat_138 f_M_67 rfl rfl ?_
              refine tk_iconst (pc := 141) (v := 1) d_M_heat_141 (by decide) ?_
              refine tk_isub (pc := 142) d_M_heat_142 ?_
              exact tk_ireturn (pc := 143) d_M_heat_143 rfl rfl (Nat.le_of_ble_eq_true rfl) (Nat.le_of_ble_eq_true rfl) ⟨by rw [show nI n + 1 = nI (n + 1) from nI_1 n, show nI (n + 1) - 1 = nI n from nI_pred n], by rw [← nI_1]; rfl⟩
            · exact absurd (show nI 4 ≤ nI 4 from by decide) he
          | succ m ih =>
            intro i hi'
            refine tk_iload_n (pc := 86) d_M_heat_86 rfl ?_
            refine tk_iconst (pc := 87) (v := 4) d_M_heat_87 (by decide) ?_
            refine tk_icmp_ge (pc := 88) (tgt := 127) d_M_heat_88 (by decide) (fun he => ?_) (fun he => ?_)
            · exact absurd ((nI_leI (a := 4) (b := i) (by omega) (by omega)).mp he) (by omega)
            refine tk_aload_n (pc := 91) d_M_heat_91 rfl ?_
            refine tk_get (pc := 92) d_M_heat_92 f_M_37 rfl rfl ?_
            refine tk_iconst (pc := 95) (v := 4) d_M_heat_95 (by decide) ?_
            refine tk_aload_n (pc := 96) d_M_heat_96 rfl ?_
            refine tk_get (pc := 97) d_M_heat_97 f_M_67 rfl rfl ?_
            refine tk_imul (pc := 100) d_M_heat_100 ?_
            refine tk_iload_n (pc := 101) d_M_heat_101 rfl ?_
            refine tk_iadd (pc := 102) d_M_heat_102 ?_
            refine tk_iconst (pc := 103) (v := 0) d_M_heat_103 (by decide) ?_
            refine tk_iast (pc := 104) (4*n+i) d_M_heat_104 rfl (ixma 4 n i) (by omega) (by decide) ?_
            refine tk_aload_n (pc := 105) d_M_heat_105 rfl ?_
            refine tk_get (pc := 106) d_M_heat_106 f_M_40 rfl rfl ?_
            refine tk_iconst (pc := 109) (v := 4) d_M_heat_109 (by decide) ?_
            refine tk_aload_n (pc := 110) d_M_heat_110 rfl ?_
            refine tk_get (pc := 111) d_M_heat_111 f_M_67 rfl rfl ?_
            refine tk_imul (pc := 114) d_M_heat_114 ?_
            refine tk_iload_n (pc := 115) d_M_heat_115 rfl ?_
            refine tk_iadd (pc := 116) d_M_heat_116 ?_
            refine tk_sipush (pc := 117) (v := 10000) d_M_heat_117 (by decide) ?_
            refine tk_iast (pc := 120) (4*n+i) d_M_heat_120 rfl (ixma 4 n i) (by omega) (by decide) ?_
            refine tk_jinc3 (pc := 121) d_M_heat_121 rfl (by decide) ?_
            refine tk_goto (pc := 124) (tgt := 86) d_M_heat_124 (by decide) ?_
            refine tk_eq rfl (by rw [inc1]) rfl ?_ (ih (i + 1) (by omega))
            rw [← fil_s, ← fil_s]; rfl
        exact tk_eq rfl rfl rfl (by rw [fil_0, fil_0]; rfl) (key 4 0 rfl)
      · exact absurd rfl hd
    · exact absurd hc (by decide)
  · exact absurd ((nI_eq (b := 4) (by omega) (by omega)).mp hb) (by omega)
theorem r_planned_1 {a : Int32} (hi : a < 0 ∨ 1 < a) : tk_M y_M_planned w_M_planned 10 0 0 [.ref 29, .int a] (wd g h p c (md th gn mk mc ms ml ma mb hn le gr mo hl hu pc pl aq sp st nw br o)) (tk_det (.inl (some (.int 0))) (wd g h p c (md 1 gn mk mc ms ml ma mb hn le gr mo hl hu pc pl aq sp st nw br o))) := by
  refine tk_M.of (lv := [some (.ref 29), some (.int a)]) (by decide) (Nat.le_of_ble_eq_true rfl) rfl ?_
  have tail : ∀ v : Int32, tk_T y_M_planned c_M_planned 2 (some .int) [] 10 0 0 (fun _ => none) 0 0 (tk_det (.inl (some (.int 0))) (wd g h p c (md 1 gn mk mc ms ml ma mb hn le gr mo hl hu pc pl aq sp st nw br o))) 28 [some (.ref 29), some (.int a)] [.int v, .int 1, .ref 29] (wd g h p c (md th gn mk mc ms ml ma mb hn le gr mo hl hu pc pl aq sp st nw br o)) := by
    intro v
    refine tk_iconst (pc := 28) (v := 0) d_M_planned_28 (by decide) ?_
    refine tk_callVr (pc := 29) d_M_planned_29 l_M_76 k_M_throwing rfl rfl rfl (m_t1 (y := v) (z := 0)) rfl (by omega) (Nat.le_of_ble_eq_true rfl) (Nat.le_of_ble_eq_true rfl) (Nat.le_of_ble_eq_true rfl) rfl rfl ?_
    refine tk_if_eq (pc := 32) (tgt := 37) d_M_planned_32 (by decide) (fun hb => ?_) (fun hb => ?_)
    · exact absurd hb (by decide)
    refine tk_iconst (pc := 35) (v := 0) d_M_planned_35 (by decide) ?_
    exact tk_ireturn (pc := 36) d_M_planned_36 rfl rfl (Nat.le_of_ble_eq_true rfl) (Nat.le_of_ble_eq_true rfl) ⟨rfl, rfl⟩
  refine tk_aload_n (pc := 0) d_M_planned_0 rfl ?_
  refine tk_iload_n (pc := 1) d_M_planned_1 rfl ?_
  refine tk_i2l (pc := 2) d_M_planned_2 ?_
  refine tk_lconst (pc := 3) (v := 0) d_M_planned_3 (by decide) ?_
  refine tk_lconst (pc := 4) (v := 1) d_M_planned_4 (by decide) ?_
  refine tk_callSr (pc := 5) d_M_planned_5 l_M_63 k_M_in (m_in_no (x := a) (lo := 0) (hi := 1) rfl rfl hi) rfl (by omega) (Nat.le_of_ble_eq_true rfl) (Nat.le_of_ble_eq_true rfl) (Nat.le_of_ble_eq_true rfl) rfl rfl ?_
  refine tk_if_ne (pc := 8) (tgt := 15) d_M_planned_8 (by decide) (fun hb => ?_) (fun hb => ?_)
  · exact absurd rfl hb
  refine tk_iconst (pc := 11) (v := 1) d_M_planned_11 (by decide) ?_
  refine tk_goto (pc := 12) (tgt := 16) d_M_planned_12 (by decide) ?_
  refine tk_aload_n (pc := 16) d_M_planned_16 rfl ?_
  refine tk_get (pc := 17) d_M_planned_17 f_M_101 rfl rfl ?_
  refine tk_if_ne (pc := 20) (tgt := 27) d_M_planned_20 (by decide) (fun hc => ?_) (fun hc => ?_)
  · refine tk_iconst (pc := 27) (v := 0) d_M_planned_27 (by decide) ?_
    exact tail 0
  · refine tk_iconst (pc := 23) (v := 1) d_M_planned_23 (by decide) ?_
    refine tk_goto (pc := 24) (tgt := 28) d_M_planned_24 (by decide) ?_
    exact tail 1
theorem r_planned_2 {a : Int32} (hi : ¬ (a < 0 ∨ 1 < a)) : tk_M y_M_planned w_M_planned 10 0 0 [.ref 29, .int a] (wd g h p c (md th gn mk mc ms ml ma mb hn le gr mo hl hu pc pl 0 sp st nw br o)) (tk_det (.inl (some (.int 0))) (wd g h p c (md 2 gn mk mc ms ml ma mb hn le gr mo hl hu pc pl 0 sp st nw br o))) := by
  refine tk_M.of (lv := [some (.ref 29), some (.int a)]) (by decide) (Nat.le_of_ble_eq_true rfl) rfl ?_
  refine tk_aload_n (pc := 0) d_M_planned_0 rfl ?_
  refine tk_iload_n (pc := 1) d_M_planned_1 rfl ?_
  refine tk_i2l (pc := 2) d_M_planned_2 ?_
  refine tk_lconst (pc := 3) (v := 0) d_M_planned_3 (by decide) ?_
  refine tk_lconst (pc := 4) (v := 1) d_M_planned_4 (by decide) ?_
  refine tk_callSr (pc := 5) d_M_planned_5 l_M_63 k_M_in (m_in_yes (x := a) (lo := 0) (hi := 1) rfl rfl hi) rfl (by omega) (Nat.le_of_ble_eq_true rfl) (Nat.le_of_ble_eq_true rfl) (Nat.le_of_ble_eq_true rfl) rfl rfl ?_
  refine tk_if_ne (pc := 8) (tgt := 15) d_M_planned_8 (by decide) (fun hb => ?_) (fun hb => ?_)
  · refine tk_iconst (pc := 15) (v := 0) d_M_planned_15 (by decide) ?_
    refine tk_aload_n (pc := 16) d_M_planned_16 rfl ?_
    refine tk_get (pc := 17) d_M_planned_17 f_M_101 rfl rfl ?_
    refine tk_if_ne (pc := 20) (tgt := 27) d_M_planned_20 (by decide) (fun hc => ?_) (fun hc => ?_)
    · exact absurd rfl hc
    refine tk_iconst (pc := 23) (v := 1) d_M_planned_23 (by decide) ?_
    refine tk_goto (pc := 24) (tgt := 28) d_M_planned_24 (by decide) ?_
    refine tk_iconst (pc := 28) (v := 0) d_M_planned_28 (by decide) ?_
    refine tk_callVr (pc := 29) d_M_planned_29 l_M_76 k_M_throwing rfl rfl rfl (m_t2 (z := 0)) rfl (by omega) (Nat.le_of_ble_eq_true rfl) (Nat.le_of_ble_eq_true rfl) (Nat.le_of_ble_eq_true rfl) rfl rfl ?_
    refine tk_if_eq (pc := 32) (tgt := 37) d_M_planned_32 (by decide) (fun hd => ?_) (fun hd => ?_)
    · exact absurd hd (by decide)
    refine tk_iconst (pc := 35) (v := 0) d_M_planned_35 (by decide) ?_
    exact tk_ireturn (pc := 36) d_M_planned_36 rfl rfl (Nat.le_of_ble_eq_true rfl) (Nat.le_of_ble_eq_true rfl) ⟨rfl, rfl⟩
  · exact absurd hb (by decide)
theorem r_planned_0 {a : Int32} (hi : ¬ (a < 0 ∨ 1 < a)) : tk_M y_M_planned w_M_planned 10 0 0 [.ref 29, .int a] (wd g h p c (md th gn mk mc ms ml ma mb hn le gr mo hl hu pc pl 1 sp st nw br o)) (tk_det (.inl (some (.int (if a = 1 then st else if sp = 0 then 0 else 1)))) (wd g h p c (md 0 gn mk mc ms ml ma mb hn le gr mo hl hu pc pl 1 sp st nw br o))) := by
  refine tk_M.of (lv := [some (.ref 29), some (.int a)]) (by decide) (Nat.le_of_ble_eq_true rfl) rfl ?_
  refine tk_aload_n (pc := 0) d_M_planned_0 rfl ?_
  refine tk_iload_n (pc := 1) d_M_planned_1 rfl ?_
  refine tk_i2l (pc := 2) d_M_planned_2 ?_
  refine tk_lconst (pc := 3) (v := 0) d_M_planned_3 (by decide) ?_
  refine tk_lconst (pc := 4) (v := 1) d_M_planned_4 (by decide) ?_
  refine tk_callSr (pc := 5) d_M_planned_5 l_M_63 k_M_in (m_in_yes (x := a) (lo := 0) (hi := 1) rfl rfl hi) rfl (by omega) (Nat.le_of_ble_eq_true rfl) (Nat.le_of_ble_eq_true rfl) (Nat.le_of_ble_eq_true rfl) rfl rfl ?_
  refine tk_if_ne (pc := 8) (tgt := 15) d_M_planned_8 (by decide) (fun hb => ?_) (fun hb => ?_)
  · refine tk_iconst (pc := 15) (v := 0) d_M_planned_15 (by decide) ?_
    refine tk_aload_n (pc := 16) d_M_planned_16 rfl ?_
    refine tk_get (pc := 17) d_M_planned_17 f_M_101 rfl rfl ?_
    refine tk_if_ne (pc := 20) (tgt := 27) d_M_planned_20 (by decide) (fun hc => ?_) (fun hc => ?_)
    · refine tk_iconst (pc := 27) (v := 0) d_M_planned_27 (by decide) ?_
      refine tk_iconst (pc := 28) (v := 0) d_M_planned_28 (by decide) ?_
      refine tk_callVr (pc := 29) d_M_planned_29 l_M_76 k_M_throwing rfl rfl rfl (m_t0) rfl (by omega) (Nat.le_of_ble_eq_true rfl) (Nat.le_of_ble_eq_true rfl) (Nat.le_of_ble_eq_true rfl) rfl rfl ?_
      refine tk_if_eq (pc := 32) (tgt := 37) d_M_planned_32 (by decide) (fun hd => ?_) (fun hd => ?_)
      · refine tk_iload_n (pc := 37) d_M_planned_37 rfl ?_
        refine tk_iconst (pc := 38) (v := 1) d_M_planned_38 (by decide) ?_
        refine tk_icmp_ne (pc := 39) (tgt := 49) d_M_planned_39 (by decide) (fun he => ?_) (fun he => ?_)
        · refine tk_aload_n (pc := 49) d_M_planned_49 rfl ?_
          refine tk_get (pc := 50) d_M_planned_50 f_M_105 rfl rfl ?_
          refine tk_if_eq (pc := 53) (tgt := 60) d_M_planned_53 (by decide) (fun hf => ?_) (fun hf => ?_)
          · refine tk_iconst (pc := 60) (v := 0) d_M_planned_60 (by decide) ?_
            exact tk_ireturn (pc := 61) d_M_planned_61 rfl rfl (Nat.le_of_ble_eq_true rfl) (Nat.le_of_ble_eq_true rfl) ⟨by rw [if_neg he, if_pos hf], rfl⟩
          · refine tk_iconst (pc := 56) (v := 1) d_M_planned_56 (by decide) ?_
            refine tk_goto (pc := 57) (tgt := 61) d_M_planned_57 (by decide) ?_
            exact tk_ireturn (pc := 61) d_M_planned_61 rfl rfl (Nat.le_of_ble_eq_true rfl) (Nat.le_of_ble_eq_true rfl) ⟨by rw [if_neg he, if_neg hf], rfl⟩
        · refine tk_aload_n (pc := 42) d_M_planned_42 rfl ?_
          refine tk_get (pc := 43) d_M_planned_43 f_M_108 rfl rfl ?_
          refine tk_goto (pc := 46) (tgt := 61) d_M_planned_46 (by decide) ?_
          exact tk_ireturn (pc := 61) d_M_planned_61 rfl rfl (Nat.le_of_ble_eq_true rfl) (Nat.le_of_ble_eq_true rfl) ⟨by rw [if_pos he], rfl⟩
      · exact absurd rfl hd
    · exact absurd hc (by decide)
  · exact absurd hb (by decide)
end REF2
