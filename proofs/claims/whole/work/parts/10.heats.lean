/-! ===== Heats ===== -/
def fil (a : Ar) (b i : Nat) (v : Int32) : Ar := fun j => if b ≤ j ∧ j < b + i then v else a j
theorem fil_0 (a : Ar) (b : Nat) (v : Int32) : fil a b 0 v = a := by
  funext j; simp only [fil]; rw [if_neg (by omega)]
theorem fil_s (a : Ar) (b i : Nat) (v : Int32) : upd (fil a b i v) (b + i) v = fil a b (i + 1) v := by
  funext j
  simp only [upd, fil]
  by_cases h1 : j = b + i
  · subst h1; rw [if_pos rfl, if_pos (by omega)]
  · rw [if_neg h1]
    by_cases h2 : b ≤ j ∧ j < b + i
    · rw [if_pos h2, if_pos (by omega)]
    · rw [if_neg h2, if_neg (by omega)]
/-- i places of a from b on are those of c from 0 on -/
def cpf (a c : Ar) (b i : Nat) : Ar := fun j => if b ≤ j ∧ j < b + i then c (j - b) else a j
theorem cpf_0 (a c : Ar) (b : Nat) : cpf a c b 0 = a := by
  funext j; simp only [cpf]; rw [if_neg (by omega)]
theorem cpf_s (a c : Ar) (b i : Nat) : upd (cpf a c b i) (b + i) (c i) = cpf a c b (i + 1) := by
  funext j
  simp only [upd, cpf]
  by_cases h1 : j = b + i
  · subst h1; rw [if_pos rfl, if_pos (by omega), show b + i - b = i by omega]
  · rw [if_neg h1]
    by_cases h2 : b ≤ j ∧ j < b + i
    · rw [if_pos h2, if_pos (by omega)]
    · rw [if_neg h2, if_neg (by omega)]
theorem m_H_append {g : sG} {p : sP} {c : sC} {t : tk_W} {lo hi ls hs mb pc bd : Ar} {n : Nat} {a b : Int32} (hn : n < 4) : tk_M y_H_append w_H_append 0 0 0 [.ref 8, .int a, .int b] (wd g (nI n, lo, hi, ls, hs, mb, pc, bd) p c t) (tk_det (.inl (some (.int (nI n)))) (wd g (nI (n + 1), upd lo n a, upd hi n b, ls, fil hs (n * 4) 4 10000, upd mb n 30, upd pc n (-1), bd) p c t)) := by
  refine tk_M.of (lv := [some (.ref 8), some (.int a), some (.int b), none, none]) (by decide) (Nat.le_of_ble_eq_true rfl) rfl ?_
  refine tk_aload_n (pc := 0) d_H_append_0 rfl ?_
  refine tk_get (pc := 1) d_H_append_1 f_H_33 rfl rfl ?_
  refine tk_istore3 (pc := 4) d_H_append_4 rfl (by decide) ?_
  refine tk_aload_n (pc := 5) d_H_append_5 rfl ?_
  refine tk_get (pc := 6) d_H_append_6 f_H_9 rfl rfl ?_
  refine tk_iload_n (pc := 9) d_H_append_9 rfl ?_
  refine tk_iload_n (pc := 10) d_H_append_10 rfl ?_
  refine tk_iast (pc := 11) n d_H_append_11 rfl rfl hn (by decide) ?_
  refine tk_aload_n (pc := 12) d_H_append_12 rfl ?_
  refine tk_get (pc := 13) d_H_append_13 f_H_15 rfl rfl ?_
  refine tk_iload_n (pc := 16) d_H_append_16 rfl ?_
  refine tk_iload_n (pc := 17) d_H_append_17 rfl ?_
  refine tk_iast (pc := 18) n d_H_append_18 rfl rfl hn (by decide) ?_
  refine tk_iconst (pc := 19) (v := 0) d_H_append_19 (by decide) ?_
  refine tk_istore4 (pc := 20) d_H_append_20 rfl (by decide) ?_
  have key : ∀ (m i : Nat), i + m = 4 → tk_T y_H_append c_H_append 5 (some .int) [] 0 0 0 (fun _ => none) 0 0 (tk_det (.inl (some (.int (nI n)))) (wd g (nI (n + 1), upd lo n a, upd hi n b, ls, fil hs (n * 4) 4 10000, upd mb n 30, upd pc n (-1), bd) p c t)) 22 [some (.ref 8), some (.int a), some (.int b), some (.int (nI n)), some (.int (nI i))] [] (wd g (nI n, upd lo n a, upd hi n b, ls, fil hs (n * 4) i 10000, mb, pc, bd) p c t) := by
    intro m
    induction m with
    | zero =>
      intro i hi'
      obtain rfl : i = 4 := by omega
      refine tk_iload (pc := 22) d_H_append_22 rfl ?_
      refine tk_iconst (pc := 24) (v := 4) d_H_append_24 (by decide) ?_
      refine tk_icmp_ge (pc := 25) (tgt := 48) d_H_append_25 (by decide) (fun hb => ?_) (fun hb => ?_)
      · refine tk_aload_n (pc := 48) d_H_append_48 rfl ?_
        refine tk_get (pc := 49) d_H_append_49 f_H_24 rfl rfl ?_
        refine tk_iload_n (pc := 52) d_H_append_52 rfl ?_
        refine tk_bipush (pc := 53) (v := 30) d_H_append_53 (by decide) ?_
        refine tk_iast (pc := 55) n d_H_append_55 rfl rfl hn (by decide) ?_
        refine tk_aload_n (pc := 56) d_H_append_56 rfl ?_
        refine tk_get (pc := 57) d_H_append_57 f_H_27 rfl rfl ?_
        refine tk_iload_n (pc := 60) d_H_append_60 rfl ?_
        refine tk_iconst (pc := 61) (v := -1) d_H_append_61 (by decide) ?_
        refine tk_iast (pc := 62) n d_H_append_62 rfl rfl hn (by decide) ?_
        refine tk_aload_n (pc := 63) d_H_append_63 rfl ?_
        refine tk_dup (pc := 64) d_H_append_64 rfl ?_
        refine tk_get (pc := 65) d_H_append_65 f_H_33 rfl rfl ?_
        refine tk_iconst (pc := 68) (v := 1) d_H_append_68 (by decide) ?_
        refine tk_iadd (pc := 69) d_H_append_69 ?_
        refine tk_put (pc := 70) d_H_append_70 f_H_33 p_H_0 rfl rfl rfl (Nat.le_of_ble_eq_true rfl) rfl ?_
        refine tk_iload_n (pc := 73) d_H_append_73 rfl ?_
        exact tk_ireturn (pc := 74) d_H_append_74 rfl rfl (Nat.le_of_ble_eq_true rfl) (Nat.le_of_ble_eq_true rfl) ⟨rfl, by rw [← nI_1]; rfl⟩
      · exact absurd (show nI 4 ≤ nI 4 from by decide) hb
    | succ m ih =>
      intro i hi'
      refine tk_iload (pc := 22) d_H_append_22 rfl ?_
      refine tk_iconst (pc := 24) (v := 4) d_H_append_24 (by decide) ?_
      refine tk_icmp_ge (pc := 25) (tgt := 48) d_H_append_25 (by decide) (fun hb => ?_) (fun hb => ?_)
      · exact absurd ((nI_leI (a := 4) (b := i) (by omega) (by omega)).mp hb) (by omega)
      refine tk_aload_n (pc := 28) d_H_append_28 rfl ?_
      refine tk_get (pc := 29) d_H_append_29 f_H_21 rfl rfl ?_
      refine tk_iload_n (pc := 32) d_H_append_32 rfl ?_
      refine tk_iconst (pc := 33) (v := 4) d_H_append_33 (by decide) ?_
      refine tk_imul (pc := 34) d_H_append_34 ?_
      refine tk_iload (pc := 35) d_H_append_35 rfl ?_
      refine tk_iadd (pc := 37) d_H_append_37 ?_
      refine tk_sipush (pc := 38) (v := 10000) d_H_append_38 (by decide) ?_
      refine tk_iast (pc := 41) (n*4+i) d_H_append_41 rfl (ixma n 4 i) (by omega) (by decide) ?_
      refine tk_jinc4 (pc := 42) d_H_append_42 rfl (by decide) ?_
      refine tk_goto (pc := 45) (tgt := 22) d_H_append_45 (by decide) ?_
      refine tk_eq rfl ?_ rfl ?_ (ih (i + 1) (by omega))
      · rw [inc1]
      · rw [← fil_s]; rfl
  exact tk_eq rfl rfl rfl (by rw [fil_0]; rfl) (key 4 0 rfl)
theorem m_H_hasPlan {g : sG} {h : sH} {p : sP} {c : sC} {t : tk_W} {k : Nat} (hk : k < 4) : tk_M y_H_hasPlan w_H_hasPlan 0 0 0 [.ref 8, .int (nI k)] (wd g h p c t) (tk_det (.inl (some (.int (if h.2.2.2.2.2.2.1 k = -1 then 0 else 1)))) (wd g h p c t)) := by
  refine tk_M.of (lv := [some (.ref 8), some (.int (nI k))]) (by decide) (Nat.le_of_ble_eq_true rfl) rfl ?_
  refine tk_aload_n (pc := 0) d_H_hasPlan_0 rfl ?_
  refine tk_get (pc := 1) d_H_hasPlan_1 f_H_27 rfl rfl ?_
  refine tk_iload_n (pc := 4) d_H_hasPlan_4 rfl ?_
  refine tk_iald (pc := 5) k d_H_hasPlan_5 rfl rfl hk (by decide) ?_
  refine tk_iconst (pc := 6) (v := -1) d_H_hasPlan_6 (by decide) ?_
  refine tk_icmp_eq (pc := 7) (tgt := 14) d_H_hasPlan_7 (by decide) (fun hb => ?_) (fun hb => ?_)
  · refine tk_iconst (pc := 14) (v := 0) d_H_hasPlan_14 (by decide) ?_
    exact tk_ireturn (pc := 15) d_H_hasPlan_15 rfl rfl (Nat.le_of_ble_eq_true rfl) (Nat.le_of_ble_eq_true rfl) ⟨by rw [if_pos hb], rfl⟩
  · refine tk_iconst (pc := 10) (v := 1) d_H_hasPlan_10 (by decide) ?_
    refine tk_goto (pc := 11) (tgt := 15) d_H_hasPlan_11 (by decide) ?_
    exact tk_ireturn (pc := 15) d_H_hasPlan_15 rfl rfl (Nat.le_of_ble_eq_true rfl) (Nat.le_of_ble_eq_true rfl) ⟨by rw [if_neg hb], rfl⟩
theorem m_H_keepPlan {g : sG} {hn : Int32} {lo hi ls hs mb pc bd : Ar} {s : sS} {ch be : Ar} {q : Int32 × Int32 × Int32 × Int32 × Int32} {c : sC} {t : tk_W} {k : Nat} {v : Int32} (hk : k < 4) : tk_M y_H_keepPlan w_H_keepPlan 0 0 0 [.ref 8, .int (nI k), .ref 22, .int v] (wd g (hn, lo, hi, ls, hs, mb, pc, bd) (s, ch, be, q) c t) (tk_det (.inl none) (wd g (hn, lo, hi, ls, hs, mb, upd pc k v, cpf bd be (k * 5) 5) (s, ch, be, q) c t)) := by
  refine tk_M.of (lv := [some (.ref 8), some (.int (nI k)), some (.ref 22), some (.int v), none]) (by decide) (Nat.le_of_ble_eq_true rfl) rfl ?_
  refine tk_aload_n (pc := 0) d_H_keepPlan_0 rfl ?_
  refine tk_get (pc := 1) d_H_keepPlan_1 f_H_27 rfl rfl ?_
  refine tk_iload_n (pc := 4) d_H_keepPlan_4 rfl ?_
  refine tk_iload_n (pc := 5) d_H_keepPlan_5 rfl ?_
  refine tk_iast (pc := 6) k d_H_keepPlan_6 rfl rfl hk (by decide) ?_
  refine tk_iconst (pc := 7) (v := 0) d_H_keepPlan_7 (by decide) ?_
  refine tk_istore4 (pc := 8) d_H_keepPlan_8 rfl (by decide) ?_
  have key : ∀ (m i : Nat), i + m = 5 → tk_T y_H_keepPlan c_H_keepPlan 5 none [] 0 0 0 (fun _ => none) 0 0 (tk_det (.inl none) (wd g (hn, lo, hi, ls, hs, mb, upd pc k v, cpf bd be (k * 5) 5) (s, ch, be, q) c t)) 10 [some (.ref 8), some (.int (nI k)), some (.ref 22), some (.int v), some (.int (nI i))] [] (wd g (hn, lo, hi, ls, hs, mb, upd pc k v, cpf bd be (k * 5) i) (s, ch, be, q) c t) := by
    intro m
    induction m with
    | zero =>
      intro i hi'
      obtain rfl : i = 5 := by omega
      refine tk_iload (pc := 10) d_H_keepPlan_10 rfl ?_
      refine tk_iconst (pc := 12) (v := 5) d_H_keepPlan_12 (by decide) ?_
      refine tk_icmp_ge (pc := 13) (tgt := 37) d_H_keepPlan_13 (by decide) (fun hb => ?_) (fun hb => ?_)
      · exact tk_return (pc := 37) d_H_keepPlan_37 rfl (Nat.le_of_ble_eq_true rfl) (Nat.le_of_ble_eq_true rfl) ⟨rfl, rfl⟩
      · exact absurd (show nI 5 ≤ nI 5 from by decide) hb
    | succ m ih =>
      intro i hi'
      refine tk_iload (pc := 10) d_H_keepPlan_10 rfl ?_
      refine tk_iconst (pc := 12) (v := 5) d_H_keepPlan_12 (by decide) ?_
      refine tk_icmp_ge (pc := 13) (tgt := 37) d_H_keepPlan_13 (by decide) (fun hb => ?_) (fun hb => ?_)
      · exact absurd ((nI_leI (a := 5) (b := i) (by omega) (by omega)).mp hb) (by omega)
      refine tk_aload_n (pc := 16) d_H_keepPlan_16 rfl ?_
      refine tk_get (pc := 17) d_H_keepPlan_17 f_H_30 rfl rfl ?_
      refine tk_iload_n (pc := 20) d_H_keepPlan_20 rfl ?_
      refine tk_iconst (pc := 21) (v := 5) d_H_keepPlan_21 (by decide) ?_
      refine tk_imul (pc := 22) d_H_keepPlan_22 ?_
      refine tk_iload (pc := 23) d_H_keepPlan_23 rfl ?_
      refine tk_iadd (pc := 25) d_H_keepPlan_25 ?_
      refine tk_aload_n (pc := 26) d_H_keepPlan_26 rfl ?_
      refine tk_iload (pc := 27) d_H_keepPlan_27 rfl ?_
      refine tk_iald (pc := 29) i d_H_keepPlan_29 rfl rfl (by omega) (by decide) ?_
      refine tk_iast (pc := 30) (k*5+i) d_H_keepPlan_30 rfl (ixma k 5 i) (by omega) (by decide) ?_
      refine tk_jinc4 (pc := 31) d_H_keepPlan_31 rfl (by decide) ?_
      refine tk_goto (pc := 34) (tgt := 10) d_H_keepPlan_34 (by decide) ?_
      refine tk_eq rfl ?_ rfl ?_ (ih (i + 1) (by omega))
      · rw [inc1]
      · rw [← cpf_s]; rfl
  exact tk_eq rfl rfl rfl (by rw [cpf_0]; rfl) (key 5 0 rfl)
