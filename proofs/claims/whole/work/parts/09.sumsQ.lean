theorem m_settleC {g : sG} {h : sH} {p : sP} {q : (Nat → Int64) × Int32} {t : tk_W} {sn : Int32} {sr sb f : Ar} {k : Nat} (hk : k < 5) : tk_M y_S_settle w_S_settle 0 0 0 [.ref 24, .int (nI k)] (wd g h p ((sn, sr, sb, f), q) t) (tk_det (.inl none) (wd g h p ((sn, sr, sb, (stl f k 12)), q) t)) := by
  refine tk_M.of (lv := [some (.ref 24), some (.int (nI k)), none, none]) (by decide) (Nat.le_of_ble_eq_true rfl) rfl ?_
  refine tk_iload_n (pc := 0) d_S_settle_0 rfl ?_
  refine tk_bipush (pc := 1) (v := 12) d_S_settle_1 (by decide) ?_
  refine tk_imul (pc := 3) d_S_settle_3 ?_
  refine tk_istore2 (pc := 4) d_S_settle_4 rfl (by decide) ?_
  refine tk_iconst (pc := 5) (v := 0) d_S_settle_5 (by decide) ?_
  refine tk_istore3 (pc := 6) d_S_settle_6 rfl (by decide) ?_
  rw [show nI k * 12 = nI (k * 12) from ixm k 12]
  have key : ∀ (n i : Nat), i + n = 12 → tk_T y_S_settle c_S_settle 4 none [] 0 0 0 (fun _ => none) 0 0 (tk_det (.inl none) (wd g h p ((sn, sr, sb, (stl f k 12)), q) t)) 7 [some (.ref 24), some (.int (nI k)), some (.int (nI (k * 12))), some (.int (nI i))] [] (wd g h p ((sn, sr, sb, (stl f k i)), q) t) := by
    intro n
    induction n with
    | zero =>
      intro i hi
      obtain rfl : i = 12 := by omega
      refine tk_iload_n (pc := 7) d_S_settle_7 rfl ?_
      refine tk_bipush (pc := 8) (v := 12) d_S_settle_8 (by decide) ?_
      refine tk_icmp_ge (pc := 10) (tgt := 38) d_S_settle_10 (by decide) (fun hb => ?_) (fun hb => ?_)
      · exact tk_return (pc := 38) d_S_settle_38 rfl (Nat.le_of_ble_eq_true rfl) (Nat.le_of_ble_eq_true rfl) ⟨rfl, rfl⟩
      · exact absurd (show nI 12 ≤ nI 12 from by decide) hb
    | succ n ih =>
      intro i hi
      refine tk_iload_n (pc := 7) d_S_settle_7 rfl ?_
      refine tk_bipush (pc := 8) (v := 12) d_S_settle_8 (by decide) ?_
      refine tk_icmp_ge (pc := 10) (tgt := 38) d_S_settle_10 (by decide) (fun hb => ?_) (fun hb => ?_)
      · exact absurd ((nI_leI (a := 12) (b := i) (by omega) (by omega)).mp hb) (by omega)
      refine tk_aload_n (pc := 13) d_S_settle_13 rfl ?_
      refine tk_get (pc := 14) d_S_settle_14 f_S_18 rfl rfl ?_
      refine tk_iload_n (pc := 17) d_S_settle_17 rfl ?_
      refine tk_bipush (pc := 18) (v := 12) d_S_settle_18 (by decide) ?_
      refine tk_iadd (pc := 20) d_S_settle_20 ?_
      refine tk_iload_n (pc := 21) d_S_settle_21 rfl ?_
      refine tk_iadd (pc := 22) d_S_settle_22 ?_
      refine tk_aload_n (pc := 23) d_S_settle_23 rfl ?_
      refine tk_get (pc := 24) d_S_settle_24 f_S_18 rfl rfl ?_
      refine tk_iload_n (pc := 27) d_S_settle_27 rfl ?_
      refine tk_iload_n (pc := 28) d_S_settle_28 rfl ?_
      refine tk_iadd (pc := 29) d_S_settle_29 ?_
      refine tk_iald (pc := 30) (k*12+i) d_S_settle_30 rfl (ix2 _ _) (by omega) (by decide) ?_
      refine tk_iast (pc := 31) (k*12+12+i) d_S_settle_31 rfl (ix3 (k * 12) 12 i) (by omega) (by decide) ?_
      refine tk_jinc3 (pc := 32) d_S_settle_32 rfl (by decide) ?_
      refine tk_goto (pc := 35) (tgt := 7) d_S_settle_35 (by decide) ?_
      refine tk_eq rfl ?_ rfl ?_ (ih (i + 1) (by omega))
      · rw [inc1]
      · exact congrArg (fun x => wd g h p ((sn, sr, sb, x), q) t) (stl_s f k i (by omega))
  exact tk_eq rfl rfl rfl (congrArg (fun x => wd g h p ((sn, sr, sb, x), q) t) (stl_0 f k).symm) (key 12 0 rfl)
theorem m_addC {g : sG} {h : sH} {p : sP} {q : (Nat → Int64) × Int32} {t : tk_W} {sn : Int32} {sr sb f : Ar} {k : Nat} (hk : k < 5) : tk_M y_S_addBundle w_S_addBundle 0 0 0 [.ref 24, .int (nI k)] (wd g h p ((sn, sr, sb, f), q) t) (tk_det (.inl none) (wd g h p ((sn, sr, sb, (adb f sb k 12)), q) t)) := by
  refine tk_M.of (lv := [some (.ref 24), some (.int (nI k)), none, none]) (by decide) (Nat.le_of_ble_eq_true rfl) rfl ?_
  refine tk_iload_n (pc := 0) d_S_addBundle_0 rfl ?_
  refine tk_bipush (pc := 1) (v := 12) d_S_addBundle_1 (by decide) ?_
  refine tk_imul (pc := 3) d_S_addBundle_3 ?_
  refine tk_istore2 (pc := 4) d_S_addBundle_4 rfl (by decide) ?_
  refine tk_iconst (pc := 5) (v := 0) d_S_addBundle_5 (by decide) ?_
  refine tk_istore3 (pc := 6) d_S_addBundle_6 rfl (by decide) ?_
  rw [show nI k * 12 = nI (k * 12) from ixm k 12]
  have key : ∀ (n i : Nat), i + n = 12 → tk_T y_S_addBundle c_S_addBundle 4 none [] 0 0 0 (fun _ => none) 0 0 (tk_det (.inl none) (wd g h p ((sn, sr, sb, (adb f sb k 12)), q) t)) 7 [some (.ref 24), some (.int (nI k)), some (.int (nI (k * 12))), some (.int (nI i))] [] (wd g h p ((sn, sr, sb, (adb f sb k i)), q) t) := by
    intro n
    induction n with
    | zero =>
      intro i hi
      obtain rfl : i = 12 := by omega
      refine tk_iload_n (pc := 7) d_S_addBundle_7 rfl ?_
      refine tk_bipush (pc := 8) (v := 12) d_S_addBundle_8 (by decide) ?_
      refine tk_icmp_ge (pc := 10) (tgt := 41) d_S_addBundle_10 (by decide) (fun hb => ?_) (fun hb => ?_)
      · exact tk_return (pc := 41) d_S_addBundle_41 rfl (Nat.le_of_ble_eq_true rfl) (Nat.le_of_ble_eq_true rfl) ⟨rfl, rfl⟩
      · exact absurd (show nI 12 ≤ nI 12 from by decide) hb
    | succ n ih =>
      intro i hi
      refine tk_iload_n (pc := 7) d_S_addBundle_7 rfl ?_
      refine tk_bipush (pc := 8) (v := 12) d_S_addBundle_8 (by decide) ?_
      refine tk_icmp_ge (pc := 10) (tgt := 41) d_S_addBundle_10 (by decide) (fun hb => ?_) (fun hb => ?_)
      · exact absurd ((nI_leI (a := 12) (b := i) (by omega) (by omega)).mp hb) (by omega)
      refine tk_aload_n (pc := 13) d_S_addBundle_13 rfl ?_
      refine tk_get (pc := 14) d_S_addBundle_14 f_S_18 rfl rfl ?_
      refine tk_iload_n (pc := 17) d_S_addBundle_17 rfl ?_
      refine tk_bipush (pc := 18) (v := 12) d_S_addBundle_18 (by decide) ?_
      refine tk_iadd (pc := 20) d_S_addBundle_20 ?_
      refine tk_iload_n (pc := 21) d_S_addBundle_21 rfl ?_
      refine tk_iadd (pc := 22) d_S_addBundle_22 ?_
      refine tk_dup2 (pc := 23) d_S_addBundle_23 rfl rfl ?_
      refine tk_iald (pc := 24) (k*12+12+i) d_S_addBundle_24 rfl (ix3 (k * 12) 12 i) (by omega) (by decide) ?_
      refine tk_aload_n (pc := 25) d_S_addBundle_25 rfl ?_
      refine tk_get (pc := 26) d_S_addBundle_26 f_S_15 rfl rfl ?_
      refine tk_iload_n (pc := 29) d_S_addBundle_29 rfl ?_
      refine tk_iload_n (pc := 30) d_S_addBundle_30 rfl ?_
      refine tk_iadd (pc := 31) d_S_addBundle_31 ?_
      refine tk_iald (pc := 32) (k*12+i) d_S_addBundle_32 rfl (ix2 _ _) (by omega) (by decide) ?_
      refine tk_iadd (pc := 33) d_S_addBundle_33 ?_
      refine tk_iast (pc := 34) (k*12+12+i) d_S_addBundle_34 rfl (ix3 (k * 12) 12 i) (by omega) (by decide) ?_
      refine tk_jinc3 (pc := 35) d_S_addBundle_35 rfl (by decide) ?_
      refine tk_goto (pc := 38) (tgt := 7) d_S_addBundle_38 (by decide) ?_
      refine tk_eq rfl ?_ rfl ?_ (ih (i + 1) (by omega))
      · rw [inc1]
      · exact congrArg (fun x => wd g h p ((sn, sr, sb, x), q) t) (adb_s f sb k i (by omega))
  exact tk_eq rfl rfl rfl (congrArg (fun x => wd g h p ((sn, sr, sb, x), q) t) (adb_0 f sb k).symm) (key 12 0 rfl)
theorem m_centsC {g : sG} {h : sH} {p : sP} {q : (Nat → Int64) × Int32} {t : tk_W} {sn : Int32} {sr sb f : Ar} {k : Nat} (hk : k < 6) : tk_M y_S_cents w_S_cents 0 0 0 [.ref 24, .int (nI k)] (wd g h p ((sn, sr, sb, f), q) t) (tk_det (.inl (some (.int (f (k * 12 + 11))))) (wd g h p ((sn, sr, sb, f), q) t)) := by
  refine tk_M.of (lv := [some (.ref 24), some (.int (nI k))]) (by decide) (Nat.le_of_ble_eq_true rfl) rfl ?_
  refine tk_aload_n (pc := 0) d_S_cents_0 rfl ?_
  refine tk_get (pc := 1) d_S_cents_1 f_S_18 rfl rfl ?_
  refine tk_iload_n (pc := 4) d_S_cents_4 rfl ?_
  refine tk_bipush (pc := 5) (v := 12) d_S_cents_5 (by decide) ?_
  refine tk_imul (pc := 7) d_S_cents_7 ?_
  refine tk_bipush (pc := 8) (v := 11) d_S_cents_8 (by decide) ?_
  refine tk_iadd (pc := 10) d_S_cents_10 ?_
  refine tk_iald (pc := 11) (k*12+11) d_S_cents_11 rfl (ixma k 12 11) (by omega) (by decide) ?_
  exact tk_ireturn (pc := 12) d_S_cents_12 rfl rfl (Nat.le_of_ble_eq_true rfl) (Nat.le_of_ble_eq_true rfl) ⟨rfl, rfl⟩
theorem m_heavyC {g : sG} {h : sH} {p : sP} {q : (Nat → Int64) × Int32} {t : tk_W} {sn : Int32} {sr sb f : Ar} {k : Nat} (hk : k < 6) : tk_M y_S_tooHeavy w_S_tooHeavy 0 0 0 [.ref 24, .int (nI k)] (wd g h p ((sn, sr, sb, f), q) t) (tk_det (.inl (some (.int (if f (k * 12 + 1) ≤ 0 then 0 else 1)))) (wd g h p ((sn, sr, sb, f), q) t)) := by
  refine tk_M.of (lv := [some (.ref 24), some (.int (nI k))]) (by decide) (Nat.le_of_ble_eq_true rfl) rfl ?_
  refine tk_aload_n (pc := 0) d_S_tooHeavy_0 rfl ?_
  refine tk_get (pc := 1) d_S_tooHeavy_1 f_S_18 rfl rfl ?_
  refine tk_iload_n (pc := 4) d_S_tooHeavy_4 rfl ?_
  refine tk_bipush (pc := 5) (v := 12) d_S_tooHeavy_5 (by decide) ?_
  refine tk_imul (pc := 7) d_S_tooHeavy_7 ?_
  refine tk_iconst (pc := 8) (v := 1) d_S_tooHeavy_8 (by decide) ?_
  refine tk_iadd (pc := 9) d_S_tooHeavy_9 ?_
  refine tk_iald (pc := 10) (k*12+1) d_S_tooHeavy_10 rfl (ixma k 12 1) (by omega) (by decide) ?_
  refine tk_if_le (pc := 11) (tgt := 18) d_S_tooHeavy_11 (by decide) (fun hb => ?_) (fun hb => ?_)
  · refine tk_iconst (pc := 18) (v := 0) d_S_tooHeavy_18 (by decide) ?_
    exact tk_ireturn (pc := 19) d_S_tooHeavy_19 rfl rfl (Nat.le_of_ble_eq_true rfl) (Nat.le_of_ble_eq_true rfl) ⟨by rw [if_pos hb], rfl⟩
  · refine tk_iconst (pc := 14) (v := 1) d_S_tooHeavy_14 (by decide) ?_
    refine tk_goto (pc := 15) (tgt := 19) d_S_tooHeavy_15 (by decide) ?_
    exact tk_ireturn (pc := 19) d_S_tooHeavy_19 rfl rfl (Nat.le_of_ble_eq_true rfl) (Nat.le_of_ble_eq_true rfl) ⟨by rw [if_neg hb], rfl⟩
theorem m_brokenC {g : sG} {h : sH} {p : sP} {q : (Nat → Int64) × Int32} {t : tk_W} {n : Nat} {sr sb f : Ar} (hn : n < 6) : tk_M y_S_broken w_S_broken 0 0 0 [.ref 24] (wd g h p (((nI n), sr, sb, f), q) t) (tk_det (.inl (some (.int (brk f (n * 12) 11)))) (wd g h p (((nI n), sr, sb, f), q) t)) := by
  refine tk_M.of (lv := [some (.ref 24), none, none]) (by decide) (Nat.le_of_ble_eq_true rfl) rfl ?_
  refine tk_iconst (pc := 0) (v := 0) d_S_broken_0 (by decide) ?_
  refine tk_istore1 (pc := 1) d_S_broken_1 rfl (by decide) ?_
  refine tk_iconst (pc := 2) (v := 0) d_S_broken_2 (by decide) ?_
  refine tk_istore2 (pc := 3) d_S_broken_3 rfl (by decide) ?_
  have key : ∀ (m i : Nat), i + m = 11 → tk_T y_S_broken c_S_broken 3 (some .int) [] 0 0 0 (fun _ => none) 0 0 (tk_det (.inl (some (.int (brk f (n * 12) 11)))) (wd g h p (((nI n), sr, sb, f), q) t)) 4 [some (.ref 24), some (.int (brk f (n * 12) i)), some (.int (nI i))] [] (wd g h p (((nI n), sr, sb, f), q) t) := by
    intro m
    induction m with
    | zero =>
      intro i hi
      obtain rfl : i = 11 := by omega
      refine tk_iload_n (pc := 4) d_S_broken_4 rfl ?_
      refine tk_bipush (pc := 5) (v := 11) d_S_broken_5 (by decide) ?_
      refine tk_icmp_ge (pc := 7) (tgt := 39) d_S_broken_7 (by decide) (fun hb => ?_) (fun hb => ?_)
      · refine tk_iload_n (pc := 39) d_S_broken_39 rfl ?_
        exact tk_ireturn (pc := 40) d_S_broken_40 rfl rfl (Nat.le_of_ble_eq_true rfl) (Nat.le_of_ble_eq_true rfl) ⟨rfl, rfl⟩
      · exact absurd (show nI 11 ≤ nI 11 from by decide) hb
    | succ m ih =>
      intro i hi
      refine tk_iload_n (pc := 4) d_S_broken_4 rfl ?_
      refine tk_bipush (pc := 5) (v := 11) d_S_broken_5 (by decide) ?_
      refine tk_icmp_ge (pc := 7) (tgt := 39) d_S_broken_7 (by decide) (fun hb => ?_) (fun hb => ?_)
      · exact absurd ((nI_leI (a := 11) (b := i) (by omega) (by omega)).mp hb) (by omega)
      refine tk_aload_n (pc := 10) d_S_broken_10 rfl ?_
      refine tk_get (pc := 11) d_S_broken_11 f_S_18 rfl rfl ?_
      refine tk_aload_n (pc := 14) d_S_broken_14 rfl ?_
      refine tk_get (pc := 15) d_S_broken_15 f_S_27 rfl rfl ?_
      refine tk_bipush (pc := 18) (v := 12) d_S_broken_18 (by decide) ?_
      refine tk_imul (pc := 20) d_S_broken_20 ?_
      refine tk_iload_n (pc := 21) d_S_broken_21 rfl ?_
      refine tk_iadd (pc := 22) d_S_broken_22 ?_
      refine tk_iald (pc := 23) (n*12+i) d_S_broken_23 rfl (ixma n 12 i) (by omega) (by decide) ?_
      refine tk_if_le (pc := 24) (tgt := 33) d_S_broken_24 (by decide) (fun hc => ?_) (fun hc => ?_)
      · refine tk_jinc2 (pc := 33) d_S_broken_33 rfl (by decide) ?_
        refine tk_goto (pc := 36) (tgt := 4) d_S_broken_36 (by decide) ?_
        refine tk_eq rfl ?_ rfl rfl (ih (i + 1) (by omega))
        rw [inc1]
        simp only [brk]
        rw [if_pos hc]
      · refine tk_iload_n (pc := 27) d_S_broken_27 rfl ?_
        refine tk_iconst (pc := 28) (v := 1) d_S_broken_28 (by decide) ?_
        refine tk_iload_n (pc := 29) d_S_broken_29 rfl ?_
        refine tk_ishl (pc := 30) d_S_broken_30 ?_
        refine tk_ior (pc := 31) d_S_broken_31 ?_
        refine tk_istore1 (pc := 32) d_S_broken_32 rfl (by decide) ?_
        refine tk_jinc2 (pc := 33) d_S_broken_33 rfl (by decide) ?_
        refine tk_goto (pc := 36) (tgt := 4) d_S_broken_36 (by decide) ?_
        refine tk_eq rfl ?_ rfl rfl (ih (i + 1) (by omega))
        rw [inc1]
        simp only [brk]
        rw [if_neg hc]
  exact key 11 0 rfl
theorem m_elemsC {g : sG} {h : sH} {p : sP} {q : (Nat → Int64) × Int32} {t : tk_W} {sn : Int32} {sr sb f : Ar} {k ht : Nat} (hk : k < 5) (hh : ht < 4) : tk_M y_S_loadElements w_S_loadElements 0 0 0 [.ref 24, .ref 1, .ref 8, .int (nI k), .int (nI ht)] (wd g h p ((sn, sr, sb, f), q) t) (tk_det (.inl none) (wd g h p ((sn, sr, (lel g h ht k sb 4), f), q) t)) := by
  refine tk_M.of (lv := [some (.ref 24), some (.ref 1), some (.ref 8), some (.int (nI k)), some (.int (nI ht)), none, none, none, none]) (by decide) (Nat.le_of_ble_eq_true rfl) rfl ?_
  refine tk_iconst (pc := 0) (v := 0) d_S_loadElements_0 (by decide) ?_
  refine tk_istore5 (pc := 1) d_S_loadElements_1 rfl (by decide) ?_
  have key : ∀ (m e : Nat), e + m = 4 → ∀ (o6 o7 o8 : Option Value), (tk_p1 o6 = true ∧ tk_p1 o7 = true) → tk_T y_S_loadElements c_S_loadElements 9 none [] 0 0 0 (fun _ => none) 0 0 (tk_det (.inl none) (wd g h p ((sn, sr, (lel g h ht k sb 4), f), q) t)) 3 [some (.ref 24), some (.ref 1), some (.ref 8), some (.int (nI k)), some (.int (nI ht)), some (.int (nI e)), o6, o7, o8] [] (wd g h p ((sn, sr, (lel g h ht k sb e), f), q) t) := by
    intro m
    induction m with
    | zero =>
      intro e he o6 o7 o8 ho
      obtain rfl : e = 4 := by omega
      refine tk_iload (pc := 3) d_S_loadElements_3 rfl ?_
      refine tk_iconst (pc := 5) (v := 4) d_S_loadElements_5 (by decide) ?_
      refine tk_icmp_ge (pc := 6) (tgt := 105) d_S_loadElements_6 (by decide) (fun hb => ?_) (fun hb => ?_)
      · exact tk_return (pc := 105) d_S_loadElements_105 rfl (Nat.le_of_ble_eq_true rfl) (Nat.le_of_ble_eq_true rfl) ⟨rfl, rfl⟩
      · exact absurd (show nI 4 ≤ nI 4 from by decide) hb
    | succ m ih =>
      intro e he o6 o7 o8 ho
      refine tk_iload (pc := 3) d_S_loadElements_3 rfl ?_
      refine tk_iconst (pc := 5) (v := 4) d_S_loadElements_5 (by decide) ?_
      refine tk_icmp_ge (pc := 6) (tgt := 105) d_S_loadElements_6 (by decide) (fun hb => ?_) (fun hb => ?_)
      · exact absurd ((nI_leI (a := 4) (b := e) (by omega) (by omega)).mp hb) (by omega)
      refine tk_iload_n (pc := 9) d_S_loadElements_9 rfl ?_
      refine tk_iconst (pc := 10) (v := 4) d_S_loadElements_10 (by decide) ?_
      refine tk_imul (pc := 11) d_S_loadElements_11 ?_
      refine tk_iload (pc := 12) d_S_loadElements_12 rfl ?_
      refine tk_iadd (pc := 14) d_S_loadElements_14 ?_
      rw [show nI k * 4 + nI e = nI (k * 4 + e) from ixma k 4 e]
      refine tk_istore6 (pc := 15) d_S_loadElements_15 rfl (by decide) ?_
      refine tk_iload (pc := 17) d_S_loadElements_17 rfl ?_
      refine tk_iconst (pc := 19) (v := 4) d_S_loadElements_19 (by decide) ?_
      refine tk_imul (pc := 20) d_S_loadElements_20 ?_
      refine tk_iload (pc := 21) d_S_loadElements_21 rfl ?_
      refine tk_iadd (pc := 23) d_S_loadElements_23 ?_
      rw [show nI ht * 4 + nI e = nI (ht * 4 + e) from ixma ht 4 e]
      refine tk_istore7 (pc := 24) d_S_loadElements_24 rfl (by decide) ?_
      refine tk_iload_n (pc := 26) d_S_loadElements_26 rfl ?_
      refine tk_bipush (pc := 27) (v := 12) d_S_loadElements_27 (by decide) ?_
      refine tk_imul (pc := 29) d_S_loadElements_29 ?_
      refine tk_iconst (pc := 30) (v := 2) d_S_loadElements_30 (by decide) ?_
      refine tk_iadd (pc := 31) d_S_loadElements_31 ?_
      refine tk_iconst (pc := 32) (v := 2) d_S_loadElements_32 (by decide) ?_
      refine tk_iload (pc := 33) d_S_loadElements_33 rfl ?_
      refine tk_imul (pc := 35) d_S_loadElements_35 ?_
      refine tk_iadd (pc := 36) d_S_loadElements_36 ?_
      rw [show nI k * 12 + 2 + 2 * nI e = nI (k * 12 + 2 + 2 * e) from by rw [show nI k * 12 = nI (k * 12) from ixm k 12, show (2 : Int32) * nI e = nI (2 * e) from ixm 2 e, show nI (k * 12) + 2 = nI (k * 12 + 2) from ix2 _ 2, ix2]]
      refine tk_istore8 (pc := 37) d_S_loadElements_37 rfl (by decide) ?_
      refine tk_aload_n (pc := 39) d_S_loadElements_39 rfl ?_
      refine tk_get (pc := 40) d_S_loadElements_40 f_S_15 rfl rfl ?_
      refine tk_iload (pc := 43) d_S_loadElements_43 rfl ?_
      refine tk_aload_n (pc := 45) d_S_loadElements_45 rfl ?_
      refine tk_get (pc := 46) d_S_loadElements_46 f_S_44 rfl rfl ?_
      refine tk_iload_n (pc := 49) d_S_loadElements_49 rfl ?_
      refine tk_iald (pc := 50) k d_S_loadElements_50 rfl rfl hk (by decide) ?_
      refine tk_aload_n (pc := 51) d_S_loadElements_51 rfl ?_
      refine tk_get (pc := 52) d_S_loadElements_52 f_S_54 rfl rfl ?_
      refine tk_iload (pc := 55) d_S_loadElements_55 rfl ?_
      refine tk_iald (pc := 57) (k*4+e) d_S_loadElements_57 rfl rfl (by omega) (by decide) ?_
      refine tk_aload_n (pc := 58) d_S_loadElements_58 rfl ?_
      refine tk_get (pc := 59) d_S_loadElements_59 f_S_57 rfl rfl ?_
      refine tk_iload (pc := 62) d_S_loadElements_62 rfl ?_
      refine tk_iald (pc := 64) (ht*4+e) d_S_loadElements_64 rfl rfl (by omega) (by decide) ?_
      refine tk_isub (pc := 65) d_S_loadElements_65 ?_
      refine tk_imul (pc := 66) d_S_loadElements_66 ?_
      refine tk_iast (pc := 67) (k*12+2+2*e) d_S_loadElements_67 rfl rfl (by omega) (by decide) ?_
      refine tk_aload_n (pc := 68) d_S_loadElements_68 rfl ?_
      refine tk_get (pc := 69) d_S_loadElements_69 f_S_15 rfl rfl ?_
      refine tk_iload (pc := 72) d_S_loadElements_72 rfl ?_
      refine tk_iconst (pc := 74) (v := 1) d_S_loadElements_74 (by decide) ?_
      refine tk_iadd (pc := 75) d_S_loadElements_75 ?_
      refine tk_aload_n (pc := 76) d_S_loadElements_76 rfl ?_
      refine tk_get (pc := 77) d_S_loadElements_77 f_S_44 rfl rfl ?_
      refine tk_iload_n (pc := 80) d_S_loadElements_80 rfl ?_
      refine tk_iald (pc := 81) k d_S_loadElements_81 rfl rfl hk (by decide) ?_
      refine tk_aload_n (pc := 82) d_S_loadElements_82 rfl ?_
      refine tk_get (pc := 83) d_S_loadElements_83 f_S_58 rfl rfl ?_
      refine tk_iload (pc := 86) d_S_loadElements_86 rfl ?_
      refine tk_iald (pc := 88) (ht*4+e) d_S_loadElements_88 rfl rfl (by omega) (by decide) ?_
      refine tk_aload_n (pc := 89) d_S_loadElements_89 rfl ?_
      refine tk_get (pc := 90) d_S_loadElements_90 f_S_61 rfl rfl ?_
      refine tk_iload (pc := 93) d_S_loadElements_93 rfl ?_
      refine tk_iald (pc := 95) (k*4+e) d_S_loadElements_95 rfl rfl (by omega) (by decide) ?_
      refine tk_isub (pc := 96) d_S_loadElements_96 ?_
      refine tk_imul (pc := 97) d_S_loadElements_97 ?_
      refine tk_iast (pc := 98) (k*12+2+2*e+1) d_S_loadElements_98 rfl (ix2 _ 1) (by omega) (by decide) ?_
      refine tk_jinc5 (pc := 99) d_S_loadElements_99 rfl (by decide) ?_
      refine tk_goto (pc := 102) (tgt := 3) d_S_loadElements_102 (by decide) ?_
      refine tk_eq rfl ?_ rfl ?_ (ih (e + 1) (by omega) (some (.int (nI (k * 4 + e)))) (some (.int (nI (ht * 4 + e)))) (some (.int (nI (k * 12 + 2 + 2 * e)))) ⟨rfl, rfl⟩)
      · rw [inc1]
      · exact congrArg (fun x => wd g h p ((sn, sr, x, f), q) t) (lel_s g h ht k sb e (by omega))
  exact tk_eq rfl rfl rfl (congrArg (fun x => wd g h p ((sn, sr, x, f), q) t) (lel_0 g h ht k sb).symm) (key 4 0 rfl none none none ⟨rfl, rfl⟩)
theorem m_loadC {gn : Nat} {gt : Ar × Ar × Ar × Ar × Ar × Ar} {h : sH} {p : sP} {q : (Nat → Int64) × Int32} {t : tk_W} {sn : Int32} {sr sb f : Ar} {ht : Nat} (hg : gn < 6) (hh : ht < 4) : tk_M y_S_load w_S_load 1 0 0 [.ref 24, .ref 1, .ref 8, .int (nI ht)] (wd (nI gn, gt) h p ((sn, sr, sb, f), q) t) (tk_det (.inl none) (wd (nI gn, gt) h p (((nI gn), (rmf (nI gn, gt) sr gn), (pbf (nI gn, gt) h ht sb gn), (ldR f h ht)), q) t)) := by
  refine tk_M.of (lv := [some (.ref 24), some (.ref 1), some (.ref 8), some (.int (nI ht)), none]) (by decide) (Nat.le_of_ble_eq_true rfl) rfl ?_
  refine tk_aload_n (pc := 0) d_S_load_0 rfl ?_
  refine tk_aload_n (pc := 1) d_S_load_1 rfl ?_
  refine tk_get (pc := 2) d_S_load_2 f_S_21 rfl rfl ?_
  refine tk_put (pc := 5) d_S_load_5 f_S_27 p_S_0 rfl rfl rfl (Nat.le_of_ble_eq_true rfl) rfl ?_
  refine tk_aload_n (pc := 8) d_S_load_8 rfl ?_
  refine tk_get (pc := 9) d_S_load_9 f_S_18 rfl rfl ?_
  refine tk_iconst (pc := 12) (v := 0) d_S_load_12 (by decide) ?_
  refine tk_aload_n (pc := 13) d_S_load_13 rfl ?_
  refine tk_get (pc := 14) d_S_load_14 f_S_30 rfl rfl ?_
  refine tk_iload_n (pc := 17) d_S_load_17 rfl ?_
  refine tk_iald (pc := 18) ht d_S_load_18 rfl rfl hh (by decide) ?_
  refine tk_iast (pc := 19) 0 d_S_load_19 rfl rfl (by omega) (by decide) ?_
  refine tk_aload_n (pc := 20) d_S_load_20 rfl ?_
  refine tk_get (pc := 21) d_S_load_21 f_S_18 rfl rfl ?_
  refine tk_iconst (pc := 24) (v := 1) d_S_load_24 (by decide) ?_
  refine tk_aload_n (pc := 25) d_S_load_25 rfl ?_
  refine tk_get (pc := 26) d_S_load_26 f_S_35 rfl rfl ?_
  refine tk_iload_n (pc := 29) d_S_load_29 rfl ?_
  refine tk_iald (pc := 30) ht d_S_load_30 rfl rfl hh (by decide) ?_
  refine tk_ineg (pc := 31) d_S_load_31 ?_
  refine tk_iast (pc := 32) 1 d_S_load_32 rfl rfl (by omega) (by decide) ?_
  refine tk_aload_n (pc := 33) d_S_load_33 rfl ?_
  refine tk_get (pc := 34) d_S_load_34 f_S_18 rfl rfl ?_
  refine tk_bipush (pc := 37) (v := 10) d_S_load_37 (by decide) ?_
  refine tk_aload_n (pc := 39) d_S_load_39 rfl ?_
  refine tk_get (pc := 40) d_S_load_40 f_S_38 rfl rfl ?_
  refine tk_iload_n (pc := 43) d_S_load_43 rfl ?_
  refine tk_iald (pc := 44) ht d_S_load_44 rfl rfl hh (by decide) ?_
  refine tk_ineg (pc := 45) d_S_load_45 ?_
  refine tk_iast (pc := 46) 10 d_S_load_46 rfl rfl (by omega) (by decide) ?_
  refine tk_iconst (pc := 47) (v := 0) d_S_load_47 (by decide) ?_
  refine tk_istore4 (pc := 48) d_S_load_48 rfl (by decide) ?_
  have key : ∀ (m i : Nat), i + m = gn → tk_T y_S_load c_S_load 5 none [] 1 0 0 (fun _ => none) 0 0 (tk_det (.inl none) (wd (nI gn, gt) h p (((nI gn), (rmf (nI gn, gt) sr gn), (pbf (nI gn, gt) h ht sb gn), (ldR f h ht)), q) t)) 50 [some (.ref 24), some (.ref 1), some (.ref 8), some (.int (nI ht)), some (.int (nI i))] [] (wd (nI gn, gt) h p (((nI gn), (rmf (nI gn, gt) sr i), (pbf (nI gn, gt) h ht sb i), (ldR f h ht)), q) t) := by
    intro m
    induction m with
    | zero =>
      intro i hi
      obtain rfl : i = gn := by omega
      refine tk_iload (pc := 50) d_S_load_50 rfl ?_
      refine tk_aload_n (pc := 52) d_S_load_52 rfl ?_
      refine tk_get (pc := 53) d_S_load_53 f_S_27 rfl rfl ?_
      refine tk_icmp_ge (pc := 56) (tgt := 160) d_S_load_56 (by decide) (fun hb => ?_) (fun hb => ?_)
      · exact tk_return (pc := 160) d_S_load_160 rfl (Nat.le_of_ble_eq_true rfl) (Nat.le_of_ble_eq_true rfl) ⟨rfl, rfl⟩
      · exact absurd ((nI_leI (a := i) (b := i) (by omega) (by omega)).mpr (Nat.le_refl _)) hb
    | succ m ih =>
      intro i hi
      refine tk_iload (pc := 50) d_S_load_50 rfl ?_
      refine tk_aload_n (pc := 52) d_S_load_52 rfl ?_
      refine tk_get (pc := 53) d_S_load_53 f_S_27 rfl rfl ?_
      refine tk_icmp_ge (pc := 56) (tgt := 160) d_S_load_56 (by decide) (fun hb => ?_) (fun hb => ?_)
      · exact absurd ((nI_leI (a := gn) (b := i) (by omega) (by omega)).mp hb) (by omega)
      refine tk_aload_n (pc := 59) d_S_load_59 rfl ?_
      refine tk_get (pc := 60) d_S_load_60 f_S_9 rfl rfl ?_
      refine tk_iload (pc := 63) d_S_load_63 rfl ?_
      refine tk_aload_n (pc := 65) d_S_load_65 rfl ?_
      refine tk_iload (pc := 66) d_S_load_66 rfl ?_
      refine tk_callVr (pc := 68) d_S_load_68 l_S_41 k_G_room rfl rfl rfl (m_G_room (k := i) (by omega)) rfl (Nat.le_of_ble_eq_true rfl) (Nat.le_of_ble_eq_true rfl) (Nat.le_of_ble_eq_true rfl) (Nat.le_of_ble_eq_true rfl) rfl rfl ?_
      refine tk_iast (pc := 71) i d_S_load_71 rfl rfl (by omega) (by decide) ?_
      refine tk_aload_n (pc := 72) d_S_load_72 rfl ?_
      refine tk_get (pc := 73) d_S_load_73 f_S_15 rfl rfl ?_
      refine tk_iload (pc := 76) d_S_load_76 rfl ?_
      refine tk_bipush (pc := 78) (v := 12) d_S_load_78 (by decide) ?_
      refine tk_imul (pc := 80) d_S_load_80 ?_
      refine tk_iconst (pc := 81) (v := 0) d_S_load_81 (by decide) ?_
      refine tk_iadd (pc := 82) d_S_load_82 ?_
      refine tk_aload_n (pc := 83) d_S_load_83 rfl ?_
      refine tk_get (pc := 84) d_S_load_84 f_S_44 rfl rfl ?_
      refine tk_iload (pc := 87) d_S_load_87 rfl ?_
      refine tk_iald (pc := 89) i d_S_load_89 rfl rfl (by omega) (by decide) ?_
      refine tk_ineg (pc := 90) d_S_load_90 ?_
      refine tk_iast (pc := 91) (i*12+0) d_S_load_91 rfl (ixma i 12 0) (by omega) (by decide) ?_
      refine tk_aload_n (pc := 92) d_S_load_92 rfl ?_
      refine tk_get (pc := 93) d_S_load_93 f_S_15 rfl rfl ?_
      refine tk_iload (pc := 96) d_S_load_96 rfl ?_
      refine tk_bipush (pc := 98) (v := 12) d_S_load_98 (by decide) ?_
      refine tk_imul (pc := 100) d_S_load_100 ?_
      refine tk_iconst (pc := 101) (v := 1) d_S_load_101 (by decide) ?_
      refine tk_iadd (pc := 102) d_S_load_102 ?_
      refine tk_aload_n (pc := 103) d_S_load_103 rfl ?_
      refine tk_get (pc := 104) d_S_load_104 f_S_44 rfl rfl ?_
      refine tk_iload (pc := 107) d_S_load_107 rfl ?_
      refine tk_iald (pc := 109) i d_S_load_109 rfl rfl (by omega) (by decide) ?_
      refine tk_iast (pc := 110) (i*12+1) d_S_load_110 rfl (ixma i 12 1) (by omega) (by decide) ?_
      refine tk_aload_n (pc := 111) d_S_load_111 rfl ?_
      refine tk_get (pc := 112) d_S_load_112 f_S_15 rfl rfl ?_
      refine tk_iload (pc := 115) d_S_load_115 rfl ?_
      refine tk_bipush (pc := 117) (v := 12) d_S_load_117 (by decide) ?_
      refine tk_imul (pc := 119) d_S_load_119 ?_
      refine tk_bipush (pc := 120) (v := 10) d_S_load_120 (by decide) ?_
      refine tk_iadd (pc := 122) d_S_load_122 ?_
      refine tk_iconst (pc := 123) (v := 1) d_S_load_123 (by decide) ?_
      refine tk_iast (pc := 124) (i*12+10) d_S_load_124 rfl (ixma i 12 10) (by omega) (by decide) ?_
      refine tk_aload_n (pc := 125) d_S_load_125 rfl ?_
      refine tk_get (pc := 126) d_S_load_126 f_S_15 rfl rfl ?_
      refine tk_iload (pc := 129) d_S_load_129 rfl ?_
      refine tk_bipush (pc := 131) (v := 12) d_S_load_131 (by decide) ?_
      refine tk_imul (pc := 133) d_S_load_133 ?_
      refine tk_bipush (pc := 134) (v := 11) d_S_load_134 (by decide) ?_
      refine tk_iadd (pc := 136) d_S_load_136 ?_
      refine tk_aload_n (pc := 137) d_S_load_137 rfl ?_
      refine tk_get (pc := 138) d_S_load_138 f_S_47 rfl rfl ?_
      refine tk_iload (pc := 141) d_S_load_141 rfl ?_
      refine tk_iald (pc := 143) i d_S_load_143 rfl rfl (by omega) (by decide) ?_
      refine tk_iast (pc := 144) (i*12+11) d_S_load_144 rfl (ixma i 12 11) (by omega) (by decide) ?_
      refine tk_aload_n (pc := 145) d_S_load_145 rfl ?_
      refine tk_aload_n (pc := 146) d_S_load_146 rfl ?_
      refine tk_aload_n (pc := 147) d_S_load_147 rfl ?_
      refine tk_iload (pc := 148) d_S_load_148 rfl ?_
      refine tk_iload_n (pc := 150) d_S_load_150 rfl ?_
      refine tk_callVr (pc := 151) d_S_load_151 l_S_50 k_S_loadElements rfl rfl rfl (m_elemsC (k := i) (ht := ht) (by omega) hh) rfl (Nat.le_of_ble_eq_true rfl) (Nat.le_of_ble_eq_true rfl) (Nat.le_of_ble_eq_true rfl) (Nat.le_of_ble_eq_true rfl) rfl rfl ?_
      refine tk_jinc4 (pc := 154) d_S_load_154 rfl (by decide) ?_
      refine tk_goto (pc := 157) (tgt := 50) d_S_load_157 (by decide) ?_
      refine tk_eq rfl ?_ rfl ?_ (ih (i + 1) (by omega))
      · rw [inc1]
      · rw [← rmf_s, ← pbf_s]; rfl
  exact tk_eq rfl rfl rfl (by rw [rmf_0, pbf_0]; rfl) (key gn 0 (by omega))
