/-! ===== the reference: sums, broken, keep ===== -/
section REF3
variable {g : sG} {h : sH} {p : sP} {c : sC} {th gn : Int32} {mk mc ms ml ma mb : Ar} {hn : Int32} {le gr mo hl hu pc pl : Ar} {aq sp st : Int32} {nw br : Ar} {o : Nat → Int64} {n : Nat} {D : Dt} {v : Nat → Nat}
theorem m_sum0 {k : Nat} (hk : k ≤ 5) (hv : ∀ j, j < k → nw j = nI (v j)) : tk_M y_M_sum w_M_sum 0 0 0 [.ref 29, .int (nI k - 1), .int 0] (wd g h p c (md th (nI D.G) (nN D.K) (nN D.C) (nN D.S) (nN D.L) (nN D.A) (nN D.B) (nI D.H) (nN D.LE) (nN D.GR) (nN D.MO) (nN D.HL) (nN D.HU) pc pl aq sp st nw br o)) (tk_det (.inl (some (.int (nI (sN v D.K k))))) (wd g h p c (md th (nI D.G) (nN D.K) (nN D.C) (nN D.S) (nN D.L) (nN D.A) (nN D.B) (nI D.H) (nN D.LE) (nN D.GR) (nN D.MO) (nN D.HL) (nN D.HU) pc pl aq sp st nw br o))) := by
  refine tk_M.of (lv := [some (.ref 29), some (.int (nI k - 1)), some (.int 0), none, none]) (by decide) (Nat.le_of_ble_eq_true rfl) rfl ?_
  refine tk_iconst (pc := 0) (v := 0) d_M_sum_0 (by decide) ?_
  refine tk_istore3 (pc := 1) d_M_sum_1 rfl (by decide) ?_
  refine tk_iconst (pc := 2) (v := 0) d_M_sum_2 (by decide) ?_
  refine tk_istore4 (pc := 3) d_M_sum_3 rfl (by decide) ?_
  have key : ∀ (m i : Nat), i + m = k → tk_T y_M_sum c_M_sum 5 (some .int) [] 0 0 0 (fun _ => none) 0 0 (tk_det (.inl (some (.int (nI (sN v D.K k))))) (wd g h p c (md th (nI D.G) (nN D.K) (nN D.C) (nN D.S) (nN D.L) (nN D.A) (nN D.B) (nI D.H) (nN D.LE) (nN D.GR) (nN D.MO) (nN D.HL) (nN D.HU) pc pl aq sp st nw br o))) 5 [some (.ref 29), some (.int (nI k - 1)), some (.int 0), some (.int (nI (sN v D.K i))), some (.int (nI i))] [] (wd g h p c (md th (nI D.G) (nN D.K) (nN D.C) (nN D.S) (nN D.L) (nN D.A) (nN D.B) (nI D.H) (nN D.LE) (nN D.GR) (nN D.MO) (nN D.HL) (nN D.HU) pc pl aq sp st nw br o)) := by
    intro m
    induction m with
    | zero =>
      intro i hi
      obtain rfl : i = k := by omega
      refine tk_iload (pc := 5) d_M_sum_5 rfl ?_
      refine tk_iload_n (pc := 7) d_M_sum_7 rfl ?_
      refine tk_icmp_gt (pc := 8) (tgt := 58) d_M_sum_8 (by decide) (fun hb => ?_) (fun hb => ?_)
      · refine tk_iload_n (pc := 58) d_M_sum_58 rfl ?_
        exact tk_ireturn (pc := 59) d_M_sum_59 rfl rfl (Nat.le_of_ble_eq_true rfl) (Nat.le_of_ble_eq_true rfl) ⟨rfl, rfl⟩
      · exact absurd ((pred_lt (by omega)).mpr (nI_nlt (Nat.le_refl _) (by omega))) hb
    | succ m ih =>
      intro i hi
      refine tk_iload (pc := 5) d_M_sum_5 rfl ?_
      refine tk_iload_n (pc := 7) d_M_sum_7 rfl ?_
      refine tk_icmp_gt (pc := 8) (tgt := 58) d_M_sum_8 (by decide) (fun hb => ?_) (fun hb => ?_)
      · exact absurd (nI_lt (show i < k by omega) (by omega)) ((pred_lt (by omega)).mp hb)
      refine tk_iload_n (pc := 11) d_M_sum_11 rfl ?_
      refine tk_aload_n (pc := 12) d_M_sum_12 rfl ?_
      refine tk_get (pc := 13) d_M_sum_13 f_M_49 rfl rfl ?_
      refine tk_iload (pc := 16) d_M_sum_16 rfl ?_
      refine tk_iald (pc := 18) i d_M_sum_18 rfl rfl (by omega) (by decide) ?_
      refine tk_iload_n (pc := 19) d_M_sum_19 rfl ?_
      refine tk_if_ne (pc := 20) (tgt := 33) d_M_sum_20 (by decide) (fun hc => ?_) (fun hc => ?_)
      · exact absurd rfl hc
      refine tk_aload_n (pc := 23) d_M_sum_23 rfl ?_
      refine tk_get (pc := 24) d_M_sum_24 f_M_7 rfl rfl ?_
      refine tk_iload (pc := 27) d_M_sum_27 rfl ?_
      refine tk_iald (pc := 29) i d_M_sum_29 rfl rfl (by omega) (by decide) ?_
      refine tk_goto (pc := 30) (tgt := 49) d_M_sum_30 (by decide) ?_
      refine tk_imul (pc := 49) d_M_sum_49 ?_
      refine tk_iadd (pc := 50) d_M_sum_50 ?_
      refine tk_istore3 (pc := 51) d_M_sum_51 rfl (by decide) ?_
      refine tk_jinc4 (pc := 52) d_M_sum_52 rfl (by decide) ?_
      refine tk_goto (pc := 55) (tgt := 5) d_M_sum_55 (by decide) ?_
      refine tk_eq rfl ?_ rfl rfl (ih (i + 1) (by omega))
      rw [inc1, hv i (by omega)]
      simp only [nN]
      rw [pk_mul, nI_add]
      rfl
  exact key k 0 (by omega)
theorem m_sum1 {k : Nat} (hk : k ≤ 5) (hv : ∀ j, j < k → nw j = nI (v j)) : tk_M y_M_sum w_M_sum 0 0 0 [.ref 29, .int (nI k - 1), .int 1] (wd g h p c (md th (nI D.G) (nN D.K) (nN D.C) (nN D.S) (nN D.L) (nN D.A) (nN D.B) (nI D.H) (nN D.LE) (nN D.GR) (nN D.MO) (nN D.HL) (nN D.HU) pc pl aq sp st nw br o)) (tk_det (.inl (some (.int (nI (sN v D.C k))))) (wd g h p c (md th (nI D.G) (nN D.K) (nN D.C) (nN D.S) (nN D.L) (nN D.A) (nN D.B) (nI D.H) (nN D.LE) (nN D.GR) (nN D.MO) (nN D.HL) (nN D.HU) pc pl aq sp st nw br o))) := by
  refine tk_M.of (lv := [some (.ref 29), some (.int (nI k - 1)), some (.int 1), none, none]) (by decide) (Nat.le_of_ble_eq_true rfl) rfl ?_
  refine tk_iconst (pc := 0) (v := 0) d_M_sum_0 (by decide) ?_
  refine tk_istore3 (pc := 1) d_M_sum_1 rfl (by decide) ?_
  refine tk_iconst (pc := 2) (v := 0) d_M_sum_2 (by decide) ?_
  refine tk_istore4 (pc := 3) d_M_sum_3 rfl (by decide) ?_
  have key : ∀ (m i : Nat), i + m = k → tk_T y_M_sum c_M_sum 5 (some .int) [] 0 0 0 (fun _ => none) 0 0 (tk_det (.inl (some (.int (nI (sN v D.C k))))) (wd g h p c (md th (nI D.G) (nN D.K) (nN D.C) (nN D.S) (nN D.L) (nN D.A) (nN D.B) (nI D.H) (nN D.LE) (nN D.GR) (nN D.MO) (nN D.HL) (nN D.HU) pc pl aq sp st nw br o))) 5 [some (.ref 29), some (.int (nI k - 1)), some (.int 1), some (.int (nI (sN v D.C i))), some (.int (nI i))] [] (wd g h p c (md th (nI D.G) (nN D.K) (nN D.C) (nN D.S) (nN D.L) (nN D.A) (nN D.B) (nI D.H) (nN D.LE) (nN D.GR) (nN D.MO) (nN D.HL) (nN D.HU) pc pl aq sp st nw br o)) := by
    intro m
    induction m with
    | zero =>
      intro i hi
      obtain rfl : i = k := by omega
      refine tk_iload (pc := 5) d_M_sum_5 rfl ?_
      refine tk_iload_n (pc := 7) d_M_sum_7 rfl ?_
      refine tk_icmp_gt (pc := 8) (tgt := 58) d_M_sum_8 (by decide) (fun hb => ?_) (fun hb => ?_)
      · refine tk_iload_n (pc := 58) d_M_sum_58 rfl ?_
        exact tk_ireturn (pc := 59) d_M_sum_59 rfl rfl (Nat.le_of_ble_eq_true rfl) (Nat.le_of_ble_eq_true rfl) ⟨rfl, rfl⟩
      · exact absurd ((pred_lt (by omega)).mpr (nI_nlt (Nat.le_refl _) (by omega))) hb
    | succ m ih =>
      intro i hi
      refine tk_iload (pc := 5) d_M_sum_5 rfl ?_
      refine tk_iload_n (pc := 7) d_M_sum_7 rfl ?_
      refine tk_icmp_gt (pc := 8) (tgt := 58) d_M_sum_8 (by decide) (fun hb => ?_) (fun hb => ?_)
      · exact absurd (nI_lt (show i < k by omega) (by omega)) ((pred_lt (by omega)).mp hb)
      refine tk_iload_n (pc := 11) d_M_sum_11 rfl ?_
      refine tk_aload_n (pc := 12) d_M_sum_12 rfl ?_
      refine tk_get (pc := 13) d_M_sum_13 f_M_49 rfl rfl ?_
      refine tk_iload (pc := 16) d_M_sum_16 rfl ?_
      refine tk_iald (pc := 18) i d_M_sum_18 rfl rfl (by omega) (by decide) ?_
      refine tk_iload_n (pc := 19) d_M_sum_19 rfl ?_
      refine tk_if_ne (pc := 20) (tgt := 33) d_M_sum_20 (by decide) (fun hc => ?_) (fun hc => ?_)
      · refine tk_iload_n (pc := 33) d_M_sum_33 rfl ?_
        refine tk_iconst (pc := 34) (v := 1) d_M_sum_34 (by decide) ?_
        refine tk_icmp_ne (pc := 35) (tgt := 48) d_M_sum_35 (by decide) (fun he => ?_) (fun he => ?_)
        · exact absurd rfl he
        refine tk_aload_n (pc := 38) d_M_sum_38 rfl ?_
        refine tk_get (pc := 39) d_M_sum_39 f_M_13 rfl rfl ?_
        refine tk_iload (pc := 42) d_M_sum_42 rfl ?_
        refine tk_iald (pc := 44) i d_M_sum_44 rfl rfl (by omega) (by decide) ?_
        refine tk_goto (pc := 45) (tgt := 49) d_M_sum_45 (by decide) ?_
        refine tk_imul (pc := 49) d_M_sum_49 ?_
        refine tk_iadd (pc := 50) d_M_sum_50 ?_
        refine tk_istore3 (pc := 51) d_M_sum_51 rfl (by decide) ?_
        refine tk_jinc4 (pc := 52) d_M_sum_52 rfl (by decide) ?_
        refine tk_goto (pc := 55) (tgt := 5) d_M_sum_55 (by decide) ?_
        refine tk_eq rfl ?_ rfl rfl (ih (i + 1) (by omega))
        rw [inc1, hv i (by omega)]
        simp only [nN]
        rw [pk_mul, nI_add]
        rfl
      · exact absurd hc (by decide)
  exact key k 0 (by omega)
theorem m_sum2 {k : Nat} (hk : k ≤ 5) (hv : ∀ j, j < k → nw j = nI (v j)) : tk_M y_M_sum w_M_sum 0 0 0 [.ref 29, .int (nI k - 1), .int 2] (wd g h p c (md th (nI D.G) (nN D.K) (nN D.C) (nN D.S) (nN D.L) (nN D.A) (nN D.B) (nI D.H) (nN D.LE) (nN D.GR) (nN D.MO) (nN D.HL) (nN D.HU) pc pl aq sp st nw br o)) (tk_det (.inl (some (.int (nI (sN v (fun _ => 1) k))))) (wd g h p c (md th (nI D.G) (nN D.K) (nN D.C) (nN D.S) (nN D.L) (nN D.A) (nN D.B) (nI D.H) (nN D.LE) (nN D.GR) (nN D.MO) (nN D.HL) (nN D.HU) pc pl aq sp st nw br o))) := by
  refine tk_M.of (lv := [some (.ref 29), some (.int (nI k - 1)), some (.int 2), none, none]) (by decide) (Nat.le_of_ble_eq_true rfl) rfl ?_
  refine tk_iconst (pc := 0) (v := 0) d_M_sum_0 (by decide) ?_
  refine tk_istore3 (pc := 1) d_M_sum_1 rfl (by decide) ?_
  refine tk_iconst (pc := 2) (v := 0) d_M_sum_2 (by decide) ?_
  refine tk_istore4 (pc := 3) d_M_sum_3 rfl (by decide) ?_
  have key : ∀ (m i : Nat), i + m = k → tk_T y_M_sum c_M_sum 5 (some .int) [] 0 0 0 (fun _ => none) 0 0 (tk_det (.inl (some (.int (nI (sN v (fun _ => 1) k))))) (wd g h p c (md th (nI D.G) (nN D.K) (nN D.C) (nN D.S) (nN D.L) (nN D.A) (nN D.B) (nI D.H) (nN D.LE) (nN D.GR) (nN D.MO) (nN D.HL) (nN D.HU) pc pl aq sp st nw br o))) 5 [some (.ref 29), some (.int (nI k - 1)), some (.int 2), some (.int (nI (sN v (fun _ => 1) i))), some (.int (nI i))] [] (wd g h p c (md th (nI D.G) (nN D.K) (nN D.C) (nN D.S) (nN D.L) (nN D.A) (nN D.B) (nI D.H) (nN D.LE) (nN D.GR) (nN D.MO) (nN D.HL) (nN D.HU) pc pl aq sp st nw br o)) := by
    intro m
    induction m with
    | zero =>
      intro i hi
      obtain rfl : i = k := by omega
      refine tk_iload (pc := 5) d_M_sum_5 rfl ?_
      refine tk_iload_n (pc := 7) d_M_sum_7 rfl ?_
      refine tk_icmp_gt (pc := 8) (tgt := 58) d_M_sum_8 (by decide) (fun hb => ?_) (fun hb => ?_)
      · refine tk_iload_n (pc := 58) d_M_sum_58 rfl ?_
        exact tk_ireturn (pc := 59) d_M_sum_59 rfl rfl (Nat.le_of_ble_eq_true rfl) (Nat.le_of_ble_eq_true rfl) ⟨rfl, rfl⟩
      · exact absurd ((pred_lt (by omega)).mpr (nI_nlt (Nat.le_refl _) (by omega))) hb
    | succ m ih =>
      intro i hi
      refine tk_iload (pc := 5) d_M_sum_5 rfl ?_
      refine tk_iload_n (pc := 7) d_M_sum_7 rfl ?_
      refine tk_icmp_gt (pc := 8) (tgt := 58) d_M_sum_8 (by decide) (fun hb => ?_) (fun hb => ?_)
      · exact absurd (nI_lt (show i < k by omega) (by omega)) ((pred_lt (by omega)).mp hb)
      refine tk_iload_n (pc := 11) d_M_sum_11 rfl ?_
      refine tk_aload_n (pc := 12) d_M_sum_12 rfl ?_
      refine tk_get (pc := 13) d_M_sum_13 f_M_49 rfl rfl ?_
      refine tk_iload (pc := 16) d_M_sum_16 rfl ?_
      refine tk_iald (pc := 18) i d_M_sum_18 rfl rfl (by omega) (by decide) ?_
      refine tk_iload_n (pc := 19) d_M_sum_19 rfl ?_
      refine tk_if_ne (pc := 20) (tgt := 33) d_M_sum_20 (by decide) (fun hc => ?_) (fun hc => ?_)
      · refine tk_iload_n (pc := 33) d_M_sum_33 rfl ?_
        refine tk_iconst (pc := 34) (v := 1) d_M_sum_34 (by decide) ?_
        refine tk_icmp_ne (pc := 35) (tgt := 48) d_M_sum_35 (by decide) (fun he => ?_) (fun he => ?_)
        · refine tk_iconst (pc := 48) (v := 1) d_M_sum_48 (by decide) ?_
          refine tk_imul (pc := 49) d_M_sum_49 ?_
          refine tk_iadd (pc := 50) d_M_sum_50 ?_
          refine tk_istore3 (pc := 51) d_M_sum_51 rfl (by decide) ?_
          refine tk_jinc4 (pc := 52) d_M_sum_52 rfl (by decide) ?_
          refine tk_goto (pc := 55) (tgt := 5) d_M_sum_55 (by decide) ?_
          refine tk_eq rfl ?_ rfl rfl (ih (i + 1) (by omega))
          rw [inc1, hv i (by omega), show nI (v i) * 1 = nI (v i * 1) from pk_mul (v i) 1, nI_add]
          rfl
        · exact absurd he (by decide)
      · exact absurd hc (by decide)
  exact key k 0 (by omega)
theorem sh4 : ∀ e, e < 4 → (4 : Int32) <<< (2 * nI e &&& 31) = nI (2 ^ (2 + 2 * e)) := by decide +kernel
theorem sh8 : ∀ e, e < 4 → (8 : Int32) <<< (2 * nI e &&& 31) = nI (2 ^ (3 + 2 * e)) := by decide +kernel
set_option maxHeartbeats 1000000 in
theorem m_Mbroken {ht : Nat} (hD : D.ok) (hh : ht < 4) (hv : ∀ j, j < D.G → nw j = nI (v j)) (hv6 : ∀ j, j < D.G → v j ≤ 6) : tk_M y_M_broken w_M_broken 1 0 0 [.ref 29, .int (nI ht)] (wd g h p c (md th (nI D.G) (nN D.K) (nN D.C) (nN D.S) (nN D.L) (nN D.A) (nN D.B) (nI D.H) (nN D.LE) (nN D.GR) (nN D.MO) (nN D.HL) (nN D.HU) pc pl aq sp st nw br o)) (tk_det (.inl (some (.int (rbk (vio D ht v) 4)))) (wd g h p c (md th (nI D.G) (nN D.K) (nN D.C) (nN D.S) (nN D.L) (nN D.A) (nN D.B) (nI D.H) (nN D.LE) (nN D.GR) (nN D.MO) (nN D.HL) (nN D.HU) pc pl aq sp st nw br o))) := by
  have hG := hD.G
  have bK := bd_K hD hG hv6
  have b1 := bd_1 hG hv6
  refine tk_M.of (lv := [some (.ref 29), some (.int (nI ht)), none, none, none, none, none, none, none, none]) (by decide) (Nat.le_of_ble_eq_true rfl) rfl ?_
  refine tk_aload_n (pc := 0) d_M_broken_0 rfl ?_
  refine tk_aload_n (pc := 1) d_M_broken_1 rfl ?_
  refine tk_get (pc := 2) d_M_broken_2 f_M_60 rfl rfl ?_
  refine tk_iconst (pc := 5) (v := 1) d_M_broken_5 (by decide) ?_
  refine tk_isub (pc := 6) d_M_broken_6 ?_
  refine tk_iconst (pc := 7) (v := 0) d_M_broken_7 (by decide) ?_
  refine tk_callVr (pc := 8) d_M_broken_8 l_M_97 k_M_sum rfl rfl rfl (m_sum0 (v := v) hG hv) rfl (by omega) (Nat.le_of_ble_eq_true rfl) (Nat.le_of_ble_eq_true rfl) (Nat.le_of_ble_eq_true rfl) rfl rfl ?_
  have step : ∀ (m e : Nat) (o5 o7 o9 : Option Value), e + m = 4 → tk_T y_M_broken c_M_broken 10 (some .int) [] 1 0 0 (fun _ => none) 0 0 (tk_det (.inl (some (.int (rbk (vio D ht v) 4)))) (wd g h p c (md th (nI D.G) (nN D.K) (nN D.C) (nN D.S) (nN D.L) (nN D.A) (nN D.B) (nI D.H) (nN D.LE) (nN D.GR) (nN D.MO) (nN D.HL) (nN D.HU) pc pl aq sp st nw br o))) 75 [some (.ref 29), some (.int (nI ht)), some (.int (nI (sN v D.K D.G))), some (.int (rbk (vio D ht v) e)), some (.int (nI e)), o5, none, o7, none, o9] [] (wd g h p c (md th (nI D.G) (nN D.K) (nN D.C) (nN D.S) (nN D.L) (nN D.A) (nN D.B) (nI D.H) (nN D.LE) (nN D.GR) (nN D.MO) (nN D.HL) (nN D.HU) pc pl aq sp st nw br o)) := by
    intro m
    induction m with
    | zero =>
      intro e o5 o7 o9 he
      obtain rfl : e = 4 := by omega
      refine tk_iload (pc := 75) d_M_broken_75 rfl ?_
      refine tk_iconst (pc := 77) (v := 4) d_M_broken_77 (by decide) ?_
      refine tk_icmp_ge (pc := 78) (tgt := 244) d_M_broken_78 (by decide) (fun hb => ?_) (fun hb => ?_)
      · refine tk_iload_n (pc := 244) d_M_broken_244 rfl ?_
        exact tk_ireturn (pc := 245) d_M_broken_245 rfl rfl (Nat.le_of_ble_eq_true rfl) (Nat.le_of_ble_eq_true rfl) ⟨rfl, rfl⟩
      · exact absurd (show nI 4 ≤ nI 4 from by decide) hb
    | succ m ih =>
      intro e o5 o7 o9 he
      have bB := bd_B (e := e) hD hG hv6
      have bA := bd_A (e := e) hD hG hv6
      have bU := hD.HU (4 * ht + e)
      have bL := hD.HL (4 * ht + e)
      have bUm : D.HU (4 * ht + e) * sN v D.K D.G ≤ 10000 * 30000 := Nat.mul_le_mul bU bK
      have bLm : D.HL (4 * ht + e) * sN v D.K D.G ≤ 10000 * 30000 := Nat.mul_le_mul bL bK
      refine tk_iload (pc := 75) d_M_broken_75 rfl ?_
      refine tk_iconst (pc := 77) (v := 4) d_M_broken_77 (by decide) ?_
      refine tk_icmp_ge (pc := 78) (tgt := 244) d_M_broken_78 (by decide) (fun hb => ?_) (fun hb => ?_)
      · exact absurd ((nI_leI (a := 4) (b := e) (by omega) (by omega)).mp hb) (by omega)
      refine tk_lconst (pc := 81) (v := 0) d_M_broken_81 (by decide) ?_
      refine tk_lstore5 (pc := 82) d_M_broken_82 rfl (by decide) ?_
      refine tk_lconst (pc := 84) (v := 0) d_M_broken_84 (by decide) ?_
      refine tk_lstore7 (pc := 85) d_M_broken_85 rfl (by decide) ?_
      refine tk_iconst (pc := 87) (v := 0) d_M_broken_87 (by decide) ?_
      refine tk_istore9 (pc := 88) d_M_broken_88 rfl (by decide) ?_
      have fin : tk_T y_M_broken c_M_broken 10 (some .int) [] 1 0 0 (fun _ => none) 0 0 (tk_det (.inl (some (.int (rbk (vio D ht v) 4)))) (wd g h p c (md th (nI D.G) (nN D.K) (nN D.C) (nN D.S) (nN D.L) (nN D.A) (nN D.B) (nI D.H) (nN D.LE) (nN D.GR) (nN D.MO) (nN D.HL) (nN D.HU) pc pl aq sp st nw br o))) 177 [some (.ref 29), some (.int (nI ht)), some (.int (nI (sN v D.K D.G))), some (.int (rbk (vio D ht v) e)), some (.int (nI e)), some (.long (lN (s3 v D.K D.B e D.G))), none, some (.long (lN (s3 v D.K D.A e D.G))), none, some (.int (nI D.G))] [] (wd g h p c (md th (nI D.G) (nN D.K) (nN D.C) (nN D.S) (nN D.L) (nN D.A) (nN D.B) (nI D.H) (nN D.LE) (nN D.GR) (nN D.MO) (nN D.HL) (nN D.HU) pc pl aq sp st nw br o)) := by
        have fin2 : ∀ b : Int32, b = rbk (vio D ht v) e ||| bz (vio D ht v) (2 + 2 * e) → tk_T y_M_broken c_M_broken 10 (some .int) [] 1 0 0 (fun _ => none) 0 0 (tk_det (.inl (some (.int (rbk (vio D ht v) 4)))) (wd g h p c (md th (nI D.G) (nN D.K) (nN D.C) (nN D.S) (nN D.L) (nN D.A) (nN D.B) (nI D.H) (nN D.LE) (nN D.GR) (nN D.MO) (nN D.HL) (nN D.HU) pc pl aq sp st nw br o))) 207 [some (.ref 29), some (.int (nI ht)), some (.int (nI (sN v D.K D.G))), some (.int b), some (.int (nI e)), some (.long (lN (s3 v D.K D.B e D.G))), none, some (.long (lN (s3 v D.K D.A e D.G))), none, some (.int (nI D.G))] [] (wd g h p c (md th (nI D.G) (nN D.K) (nN D.C) (nN D.S) (nN D.L) (nN D.A) (nN D.B) (nI D.H) (nN D.LE) (nN D.GR) (nN D.MO) (nN D.HL) (nN D.HU) pc pl aq sp st nw br o)) := by
          intro b hb2
          have nx : ∀ b' : Int32, b' = b ||| bz (vio D ht v) (3 + 2 * e) → tk_T y_M_broken c_M_broken 10 (some .int) [] 1 0 0 (fun _ => none) 0 0 (tk_det (.inl (some (.int (rbk (vio D ht v) 4)))) (wd g h p c (md th (nI D.G) (nN D.K) (nN D.C) (nN D.S) (nN D.L) (nN D.A) (nN D.B) (nI D.H) (nN D.LE) (nN D.GR) (nN D.MO) (nN D.HL) (nN D.HU) pc pl aq sp st nw br o))) 238 [some (.ref 29), some (.int (nI ht)), some (.int (nI (sN v D.K D.G))), some (.int b'), some (.int (nI e)), some (.long (lN (s3 v D.K D.B e D.G))), none, some (.long (lN (s3 v D.K D.A e D.G))), none, some (.int (nI D.G))] [] (wd g h p c (md th (nI D.G) (nN D.K) (nN D.C) (nN D.S) (nN D.L) (nN D.A) (nN D.B) (nI D.H) (nN D.LE) (nN D.GR) (nN D.MO) (nN D.HL) (nN D.HU) pc pl aq sp st nw br o)) := by
            intro b' hb'
            refine tk_jinc4 (pc := 238) d_M_broken_238 rfl (by decide) ?_
            refine tk_goto (pc := 241) (tgt := 75) d_M_broken_241 (by decide) ?_
            refine tk_eq rfl ?_ rfl rfl (ih (e + 1) (some (.long (lN (s3 v D.K D.B e D.G)))) (some (.long (lN (s3 v D.K D.A e D.G)))) (some (.int (nI D.G))) (by omega))
            rw [inc1, hb', hb2]
            rfl
          refine tk_lload (pc := 207) d_M_broken_207 rfl ?_
          refine tk_aload_n (pc := 209) d_M_broken_209 rfl ?_
          refine tk_get (pc := 210) d_M_broken_210 f_M_37 rfl rfl ?_
          refine tk_iconst (pc := 213) (v := 4) d_M_broken_213 (by decide) ?_
          refine tk_iload_n (pc := 214) d_M_broken_214 rfl ?_
          refine tk_imul (pc := 215) d_M_broken_215 ?_
          refine tk_iload (pc := 216) d_M_broken_216 rfl ?_
          refine tk_iadd (pc := 218) d_M_broken_218 ?_
          refine tk_iald (pc := 219) (4*ht+e) d_M_broken_219 rfl (ixma 4 ht e) (by omega) (by decide) ?_
          refine tk_i2l (pc := 220) d_M_broken_220 ?_
          refine tk_iload_n (pc := 221) d_M_broken_221 rfl ?_
          refine tk_i2l (pc := 222) d_M_broken_222 ?_
          refine tk_lmul (pc := 223) d_M_broken_223 ?_
          have ee : (nN D.HL (4 * ht + e)).toInt64 * (nI (sN v D.K D.G)).toInt64 = lN (D.HL (4 * ht + e) * sN v D.K D.G) := by
            rw [show nN D.HL (4 * ht + e) = nI (D.HL (4 * ht + e)) from rfl, nI_l (by omega), nI_l (by omega), lN_mul]
          rw [ee]
          refine tk_lcmp (pc := 224) d_M_broken_224 ?_
          have eo := vio_o D ht v e (by omega)
          refine tk_if_ge (pc := 225) (tgt := 238) d_M_broken_225 (by decide) (fun hc => ?_) (fun hc => ?_)
          · refine nx b ?_
            have hc' := (pk_lLE (by omega) (by omega)).mp ((lg_cmp_ge _ _).mp hc)
            simp only [bz]
            rw [eo, if_neg (by simp; omega), Int32.or_zero]
          · refine tk_iload_n (pc := 228) d_M_broken_228 rfl ?_
            refine tk_bipush (pc := 229) (v := 8) d_M_broken_229 (by decide) ?_
            refine tk_iconst (pc := 231) (v := 2) d_M_broken_231 (by decide) ?_
            refine tk_iload (pc := 232) d_M_broken_232 rfl ?_
            refine tk_imul (pc := 234) d_M_broken_234 ?_
            refine tk_ishl (pc := 235) d_M_broken_235 ?_
            refine tk_ior (pc := 236) d_M_broken_236 ?_
            refine tk_istore3 (pc := 237) d_M_broken_237 rfl (by decide) ?_
            refine nx _ ?_
            have hc' : s3 v D.K D.A e D.G < D.HL (4 * ht + e) * sN v D.K D.G := by
              rcases Nat.lt_or_ge (s3 v D.K D.A e D.G) (D.HL (4 * ht + e) * sN v D.K D.G) with q | q
              · exact q
              · exact absurd ((lg_cmp_ge _ _).mpr ((pk_lLE (by omega) (by omega)).mpr q)) hc
            simp only [bz]
            rw [eo, if_pos (by simp; omega), sh8 e (by omega)]
        refine tk_lload (pc := 177) d_M_broken_177 rfl ?_
        refine tk_aload_n (pc := 179) d_M_broken_179 rfl ?_
        refine tk_get (pc := 180) d_M_broken_180 f_M_40 rfl rfl ?_
        refine tk_iconst (pc := 183) (v := 4) d_M_broken_183 (by decide) ?_
        refine tk_iload_n (pc := 184) d_M_broken_184 rfl ?_
        refine tk_imul (pc := 185) d_M_broken_185 ?_
        refine tk_iload (pc := 186) d_M_broken_186 rfl ?_
        refine tk_iadd (pc := 188) d_M_broken_188 ?_
        refine tk_iald (pc := 189) (4*ht+e) d_M_broken_189 rfl (ixma 4 ht e) (by omega) (by decide) ?_
        refine tk_i2l (pc := 190) d_M_broken_190 ?_
        refine tk_iload_n (pc := 191) d_M_broken_191 rfl ?_
        refine tk_i2l (pc := 192) d_M_broken_192 ?_
        refine tk_lmul (pc := 193) d_M_broken_193 ?_
        have ee : (nN D.HU (4 * ht + e)).toInt64 * (nI (sN v D.K D.G)).toInt64 = lN (D.HU (4 * ht + e) * sN v D.K D.G) := by
          rw [show nN D.HU (4 * ht + e) = nI (D.HU (4 * ht + e)) from rfl, nI_l (by omega), nI_l (by omega), lN_mul]
        rw [ee]
        refine tk_lcmp (pc := 194) d_M_broken_194 ?_
        have eo := vio_e D ht v e (by omega)
        refine tk_if_le (pc := 195) (tgt := 207) d_M_broken_195 (by decide) (fun hc => ?_) (fun hc => ?_)
        · refine fin2 _ ?_
          have hc' := (pk_lLE (by omega) (by omega)).mp ((lg_cmp_le _ _).mp hc)
          simp only [bz]
          rw [eo, if_neg (by simp; omega), Int32.or_zero]
        · refine tk_iload_n (pc := 198) d_M_broken_198 rfl ?_
          refine tk_iconst (pc := 199) (v := 4) d_M_broken_199 (by decide) ?_
          refine tk_iconst (pc := 200) (v := 2) d_M_broken_200 (by decide) ?_
          refine tk_iload (pc := 201) d_M_broken_201 rfl ?_
          refine tk_imul (pc := 203) d_M_broken_203 ?_
          refine tk_ishl (pc := 204) d_M_broken_204 ?_
          refine tk_ior (pc := 205) d_M_broken_205 ?_
          refine tk_istore3 (pc := 206) d_M_broken_206 rfl (by decide) ?_
          refine fin2 _ ?_
          have hc' : D.HU (4 * ht + e) * sN v D.K D.G < s3 v D.K D.B e D.G := by
            rcases Nat.lt_or_ge (D.HU (4 * ht + e) * sN v D.K D.G) (s3 v D.K D.B e D.G) with q | q
            · exact q
            · exact absurd ((lg_cmp_le _ _).mpr ((pk_lLE (by omega) (by omega)).mpr q)) hc
          simp only [bz]
          rw [eo, if_pos (by simp; omega), sh4 e (by omega)]
      have lp : ∀ (r i : Nat), i + r = D.G → tk_T y_M_broken c_M_broken 10 (some .int) [] 1 0 0 (fun _ => none) 0 0 (tk_det (.inl (some (.int (rbk (vio D ht v) 4)))) (wd g h p c (md th (nI D.G) (nN D.K) (nN D.C) (nN D.S) (nN D.L) (nN D.A) (nN D.B) (nI D.H) (nN D.LE) (nN D.GR) (nN D.MO) (nN D.HL) (nN D.HU) pc pl aq sp st nw br o))) 90 [some (.ref 29), some (.int (nI ht)), some (.int (nI (sN v D.K D.G))), some (.int (rbk (vio D ht v) e)), some (.int (nI e)), some (.long (lN (s3 v D.K D.B e i))), none, some (.long (lN (s3 v D.K D.A e i))), none, some (.int (nI i))] [] (wd g h p c (md th (nI D.G) (nN D.K) (nN D.C) (nN D.S) (nN D.L) (nN D.A) (nN D.B) (nI D.H) (nN D.LE) (nN D.GR) (nN D.MO) (nN D.HL) (nN D.HU) pc pl aq sp st nw br o)) := by
        intro r
        induction r with
        | zero =>
          intro i hi
          obtain rfl : i = D.G := by omega
          refine tk_iload (pc := 90) d_M_broken_90 rfl ?_
          refine tk_aload_n (pc := 92) d_M_broken_92 rfl ?_
          refine tk_get (pc := 93) d_M_broken_93 f_M_60 rfl rfl ?_
          refine tk_icmp_ge (pc := 96) (tgt := 177) d_M_broken_96 (by decide) (fun hc => ?_) (fun hc => ?_)
          · exact fin
          · exact absurd (nI_le (Nat.le_refl _) (by omega)) hc
        | succ r ihr =>
          intro i hi
          refine tk_iload (pc := 90) d_M_broken_90 rfl ?_
          refine tk_aload_n (pc := 92) d_M_broken_92 rfl ?_
          refine tk_get (pc := 93) d_M_broken_93 f_M_60 rfl rfl ?_
          refine tk_icmp_ge (pc := 96) (tgt := 177) d_M_broken_96 (by decide) (fun hc => ?_) (fun hc => ?_)
          · exact absurd hc (nI_ge (by omega) (by omega))
          refine tk_lload (pc := 99) d_M_broken_99 rfl ?_
          refine tk_aload_n (pc := 101) d_M_broken_101 rfl ?_
          refine tk_get (pc := 102) d_M_broken_102 f_M_49 rfl rfl ?_
          refine tk_iload (pc := 105) d_M_broken_105 rfl ?_
          refine tk_iald (pc := 107) i d_M_broken_107 rfl rfl (by omega) (by decide) ?_
          refine tk_i2l (pc := 108) d_M_broken_108 ?_
          refine tk_aload_n (pc := 109) d_M_broken_109 rfl ?_
          refine tk_get (pc := 110) d_M_broken_110 f_M_7 rfl rfl ?_
          refine tk_iload (pc := 113) d_M_broken_113 rfl ?_
          refine tk_iald (pc := 115) i d_M_broken_115 rfl rfl (by omega) (by decide) ?_
          refine tk_i2l (pc := 116) d_M_broken_116 ?_
          refine tk_lmul (pc := 117) d_M_broken_117 ?_
          refine tk_aload_n (pc := 118) d_M_broken_118 rfl ?_
          refine tk_get (pc := 119) d_M_broken_119 f_M_25 rfl rfl ?_
          refine tk_iconst (pc := 122) (v := 4) d_M_broken_122 (by decide) ?_
          refine tk_iload (pc := 123) d_M_broken_123 rfl ?_
          refine tk_imul (pc := 125) d_M_broken_125 ?_
          refine tk_iload (pc := 126) d_M_broken_126 rfl ?_
          refine tk_iadd (pc := 128) d_M_broken_128 ?_
          refine tk_iald (pc := 129) (4*i+e) d_M_broken_129 rfl (ixma 4 i e) (by omega) (by decide) ?_
          refine tk_i2l (pc := 130) d_M_broken_130 ?_
          refine tk_lmul (pc := 131) d_M_broken_131 ?_
          refine tk_ladd (pc := 132) d_M_broken_132 ?_
          refine tk_lstore5 (pc := 133) d_M_broken_133 rfl (by decide) ?_
          refine tk_lload (pc := 135) d_M_broken_135 rfl ?_
          refine tk_aload_n (pc := 137) d_M_broken_137 rfl ?_
          refine tk_get (pc := 138) d_M_broken_138 f_M_49 rfl rfl ?_
          refine tk_iload (pc := 141) d_M_broken_141 rfl ?_
          refine tk_iald (pc := 143) i d_M_broken_143 rfl rfl (by omega) (by decide) ?_
          refine tk_i2l (pc := 144) d_M_broken_144 ?_
          refine tk_aload_n (pc := 145) d_M_broken_145 rfl ?_
          refine tk_get (pc := 146) d_M_broken_146 f_M_7 rfl rfl ?_
          refine tk_iload (pc := 149) d_M_broken_149 rfl ?_
          refine tk_iald (pc := 151) i d_M_broken_151 rfl rfl (by omega) (by decide) ?_
          refine tk_i2l (pc := 152) d_M_broken_152 ?_
          refine tk_lmul (pc := 153) d_M_broken_153 ?_
          refine tk_aload_n (pc := 154) d_M_broken_154 rfl ?_
          refine tk_get (pc := 155) d_M_broken_155 f_M_22 rfl rfl ?_
          refine tk_iconst (pc := 158) (v := 4) d_M_broken_158 (by decide) ?_
          refine tk_iload (pc := 159) d_M_broken_159 rfl ?_
          refine tk_imul (pc := 161) d_M_broken_161 ?_
          refine tk_iload (pc := 162) d_M_broken_162 rfl ?_
          refine tk_iadd (pc := 164) d_M_broken_164 ?_
          refine tk_iald (pc := 165) (4*i+e) d_M_broken_165 rfl (ixma 4 i e) (by omega) (by decide) ?_
          refine tk_i2l (pc := 166) d_M_broken_166 ?_
          refine tk_lmul (pc := 167) d_M_broken_167 ?_
          refine tk_ladd (pc := 168) d_M_broken_168 ?_
          refine tk_lstore7 (pc := 169) d_M_broken_169 rfl (by decide) ?_
          refine tk_jinc9 (pc := 171) d_M_broken_171 rfl (by decide) ?_
          refine tk_goto (pc := 174) (tgt := 90) d_M_broken_174 (by decide) ?_
          refine tk_eq rfl ?_ rfl rfl (ihr (i + 1) (by omega))
          have b1 := hv6 i (by omega)
          have b2 := hD.K i
          have b3 := hD.A (4 * i + e)
          have b4 := hD.B (4 * i + e)
          rw [inc1, hv i (by omega)]
          simp only [nN]
          rw [nI_l (by omega), nI_l (by omega), nI_l (by omega), nI_l (by omega), lN_mul, lN_mul, lN_mul, lN_add, lN_add]
          rfl
      exact lp D.G 0 (by omega)
  have mid : ∀ b : Int32, b = bz (vio D ht v) 0 ||| bz (vio D ht v) 1 → tk_T y_M_broken c_M_broken 10 (some .int) [] 1 0 0 (fun _ => none) 0 0 (tk_det (.inl (some (.int (rbk (vio D ht v) 4)))) (wd g h p c (md th (nI D.G) (nN D.K) (nN D.C) (nN D.S) (nN D.L) (nN D.A) (nN D.B) (nI D.H) (nN D.LE) (nN D.GR) (nN D.MO) (nN D.HL) (nN D.HU) pc pl aq sp st nw br o))) 43 [some (.ref 29), some (.int (nI ht)), some (.int (nI (sN v D.K D.G))), none, none, none, none, none, none, none] [.int b] (wd g h p c (md th (nI D.G) (nN D.K) (nN D.C) (nN D.S) (nN D.L) (nN D.A) (nN D.B) (nI D.H) (nN D.LE) (nN D.GR) (nN D.MO) (nN D.HL) (nN D.HU) pc pl aq sp st nw br o)) := by
    intro b hb0
    have mo1 := hD.MO ht
    refine tk_aload_n (pc := 43) d_M_broken_43 rfl ?_
    refine tk_aload_n (pc := 44) d_M_broken_44 rfl ?_
    refine tk_get (pc := 45) d_M_broken_45 f_M_60 rfl rfl ?_
    refine tk_iconst (pc := 48) (v := 1) d_M_broken_48 (by decide) ?_
    refine tk_isub (pc := 49) d_M_broken_49 ?_
    refine tk_iconst (pc := 50) (v := 2) d_M_broken_50 (by decide) ?_
    refine tk_callVr (pc := 51) d_M_broken_51 l_M_97 k_M_sum rfl rfl rfl (m_sum2 (v := v) hG hv) rfl (by omega) (Nat.le_of_ble_eq_true rfl) (Nat.le_of_ble_eq_true rfl) (Nat.le_of_ble_eq_true rfl) rfl rfl ?_
    have nx : ∀ q : Int32, q = bz (vio D ht v) 10 → tk_T y_M_broken c_M_broken 10 (some .int) [] 1 0 0 (fun _ => none) 0 0 (tk_det (.inl (some (.int (rbk (vio D ht v) 4)))) (wd g h p c (md th (nI D.G) (nN D.K) (nN D.C) (nN D.S) (nN D.L) (nN D.A) (nN D.B) (nI D.H) (nN D.LE) (nN D.GR) (nN D.MO) (nN D.HL) (nN D.HU) pc pl aq sp st nw br o))) 70 [some (.ref 29), some (.int (nI ht)), some (.int (nI (sN v D.K D.G))), none, none, none, none, none, none, none] [.int q, .int b] (wd g h p c (md th (nI D.G) (nN D.K) (nN D.C) (nN D.S) (nN D.L) (nN D.A) (nN D.B) (nI D.H) (nN D.LE) (nN D.GR) (nN D.MO) (nN D.HL) (nN D.HU) pc pl aq sp st nw br o)) := by
      intro q hq
      refine tk_ior (pc := 70) d_M_broken_70 ?_
      refine tk_istore3 (pc := 71) d_M_broken_71 rfl (by decide) ?_
      refine tk_iconst (pc := 72) (v := 0) d_M_broken_72 (by decide) ?_
      refine tk_istore4 (pc := 73) d_M_broken_73 rfl (by decide) ?_
      refine tk_eq rfl ?_ rfl rfl (step 4 0 none none none rfl)
      rw [hq, hb0]
      rfl
    refine tk_aload_n (pc := 54) d_M_broken_54 rfl ?_
    refine tk_get (pc := 55) d_M_broken_55 f_M_34 rfl rfl ?_
    refine tk_iload_n (pc := 58) d_M_broken_58 rfl ?_
    refine tk_iald (pc := 59) ht d_M_broken_59 rfl rfl hh (by decide) ?_
    refine tk_icmp_le (pc := 60) (tgt := 69) d_M_broken_60 (by decide) (fun hc => ?_) (fun hc => ?_)
    · refine tk_iconst (pc := 69) (v := 0) d_M_broken_69 (by decide) ?_
      refine nx 0 ?_
      have := (nI_leI (by omega) (by omega)).mp (show nI (sN v (fun _ => 1) D.G) ≤ nI (D.MO ht) from hc)
      simp only [bz]
      rw [show vio D ht v 10 = decide (D.MO ht < sN v (fun _ => 1) D.G) from rfl, if_neg (by simp; omega)]
    · refine tk_sipush (pc := 63) (v := 1024) d_M_broken_63 (by decide) ?_
      refine tk_goto (pc := 66) (tgt := 70) d_M_broken_66 (by decide) ?_
      refine nx 1024 ?_
      have : ¬ sN v (fun _ => 1) D.G ≤ D.MO ht := fun q => hc (show nI (sN v (fun _ => 1) D.G) ≤ nI (D.MO ht) from nI_le q (by omega))
      simp only [bz]
      rw [show vio D ht v 10 = decide (D.MO ht < sN v (fun _ => 1) D.G) from rfl, if_pos (by simp; omega)]
      rfl
  have mid0 : ∀ b : Int32, b = bz (vio D ht v) 0 → tk_T y_M_broken c_M_broken 10 (some .int) [] 1 0 0 (fun _ => none) 0 0 (tk_det (.inl (some (.int (rbk (vio D ht v) 4)))) (wd g h p c (md th (nI D.G) (nN D.K) (nN D.C) (nN D.S) (nN D.L) (nN D.A) (nN D.B) (nI D.H) (nN D.LE) (nN D.GR) (nN D.MO) (nN D.HL) (nN D.HU) pc pl aq sp st nw br o))) 27 [some (.ref 29), some (.int (nI ht)), some (.int (nI (sN v D.K D.G))), none, none, none, none, none, none, none] [.int b] (wd g h p c (md th (nI D.G) (nN D.K) (nN D.C) (nN D.S) (nN D.L) (nN D.A) (nN D.B) (nI D.H) (nN D.LE) (nN D.GR) (nN D.MO) (nN D.HL) (nN D.HU) pc pl aq sp st nw br o)) := by
    intro b hb0
    have mo1 := hD.GR ht
    refine tk_iload_n (pc := 27) d_M_broken_27 rfl ?_
    refine tk_aload_n (pc := 28) d_M_broken_28 rfl ?_
    refine tk_get (pc := 29) d_M_broken_29 f_M_31 rfl rfl ?_
    refine tk_iload_n (pc := 32) d_M_broken_32 rfl ?_
    refine tk_iald (pc := 33) ht d_M_broken_33 rfl rfl hh (by decide) ?_
    refine tk_icmp_le (pc := 34) (tgt := 41) d_M_broken_34 (by decide) (fun hc => ?_) (fun hc => ?_)
    · refine tk_iconst (pc := 41) (v := 0) d_M_broken_41 (by decide) ?_
      refine tk_ior (pc := 42) d_M_broken_42 ?_
      refine mid _ ?_
      have := (nI_leI (by omega) (by omega)).mp (show nI (sN v D.K D.G) ≤ nI (D.GR ht) from hc)
      rw [hb0]
      simp only [bz]
      rw [show vio D ht v 1 = decide (D.GR ht < sN v D.K D.G) from rfl, if_neg (c := decide (D.GR ht < sN v D.K D.G) = true) (by simp; omega)]
    · refine tk_iconst (pc := 37) (v := 2) d_M_broken_37 (by decide) ?_
      refine tk_goto (pc := 38) (tgt := 42) d_M_broken_38 (by decide) ?_
      refine tk_ior (pc := 42) d_M_broken_42 ?_
      refine mid _ ?_
      have : ¬ sN v D.K D.G ≤ D.GR ht := fun q => hc (show nI (sN v D.K D.G) ≤ nI (D.GR ht) from nI_le q (by omega))
      rw [hb0]
      simp only [bz]
      rw [show vio D ht v 1 = decide (D.GR ht < sN v D.K D.G) from rfl, if_pos (c := decide (D.GR ht < sN v D.K D.G) = true) (by simp; omega)]
      rfl
  have le1 := hD.LE ht
  refine tk_istore2 (pc := 11) d_M_broken_11 rfl (by decide) ?_
  refine tk_iload_n (pc := 12) d_M_broken_12 rfl ?_
  refine tk_aload_n (pc := 13) d_M_broken_13 rfl ?_
  refine tk_get (pc := 14) d_M_broken_14 f_M_28 rfl rfl ?_
  refine tk_iload_n (pc := 17) d_M_broken_17 rfl ?_
  refine tk_iald (pc := 18) ht d_M_broken_18 rfl rfl hh (by decide) ?_
  refine tk_icmp_ge (pc := 19) (tgt := 26) d_M_broken_19 (by decide) (fun hc => ?_) (fun hc => ?_)
  · refine tk_iconst (pc := 26) (v := 0) d_M_broken_26 (by decide) ?_
    refine mid0 _ ?_
    have := (nI_leI (by omega) (by omega)).mp (show nI (D.LE ht) ≤ nI (sN v D.K D.G) from hc)
    simp only [bz]
    rw [show vio D ht v 0 = decide (sN v D.K D.G < D.LE ht) from rfl, if_neg (by simp; omega)]
  · refine tk_iconst (pc := 22) (v := 1) d_M_broken_22 (by decide) ?_
    refine tk_goto (pc := 23) (tgt := 27) d_M_broken_23 (by decide) ?_
    refine mid0 _ ?_
    have : ¬ D.LE ht ≤ sN v D.K D.G := fun q => hc (show nI (D.LE ht) ≤ nI (sN v D.K D.G) from nI_le q (by omega))
    simp only [bz]
    rw [show vio D ht v 0 = decide (sN v D.K D.G < D.LE ht) from rfl, if_pos (by simp; omega)]
    rfl
end REF3
