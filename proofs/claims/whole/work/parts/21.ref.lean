/-! ===== the reference: bound, worst, the constructor ===== -/
section REF5
variable {g : sG} {h : sH} {p : sP} {c : sC} {th gn : Int32} {mk mc ms ml ma mb : Ar} {hn : Int32} {le gr mo hl hu pc pl : Ar} {aq sp st : Int32} {nw br : Ar} {o : Nat → Int64} {n : Nat} {D : Dt} {v : Nat → Nat}
theorem m_topD {k : Nat} (hD : D.ok) (hk : k < 5) : tk_M y_M_top w_M_top 0 0 0 [.ref 29, .int (nI k)] (wd g h p c (md th (nI D.G) (nN D.K) (nN D.C) (nN D.S) (nN D.L) (nN D.A) (nN D.B) (nI D.H) (nN D.LE) (nN D.GR) (nN D.MO) (nN D.HL) (nN D.HU) pc pl aq sp st nw br o)) (tk_det (.inl (some (.int (nI (D.R k))))) (wd g h p c (md th (nI D.G) (nN D.K) (nN D.C) (nN D.S) (nN D.L) (nN D.A) (nN D.B) (nI D.H) (nN D.LE) (nN D.GR) (nN D.MO) (nN D.HL) (nN D.HU) pc pl aq sp st nw br o))) := by
  rw [← ok_tpm hD k]; exact m_top hk
theorem oI_none : oI none < 0 := by decide
theorem oI_some {b : Nat} (h : b < 100) : ¬ oI (some b) < 0 := nI_pos (by omega)
set_option maxHeartbeats 1000000 in
theorem m_bst {i : Int32} {Q : tk_R → tk_W → Prop} (hD : D.ok)
    (K : ∀ o4 : Option Value, tk_T y_M_bound c_M_bound 5 (some .long) [] 10 0 0 (fun _ => none) 0 0 Q 98 [some (.ref 29), some (.int i), some (.int (oI (bst D D.G))), some (.int (nI D.G)), o4] [] (wd g h p c (md th (nI D.G) (nN D.K) (nN D.C) (nN D.S) (nN D.L) (nN D.A) (nN D.B) (nI D.H) (nN D.LE) (nN D.GR) (nN D.MO) (nN D.HL) (nN D.HU) pc pl aq sp st nw br o))) :
    tk_T y_M_bound c_M_bound 5 (some .long) [] 10 0 0 (fun _ => none) 0 0 Q 0 [some (.ref 29), some (.int i), none, none, none] [] (wd g h p c (md th (nI D.G) (nN D.K) (nN D.C) (nN D.S) (nN D.L) (nN D.A) (nN D.B) (nI D.H) (nN D.LE) (nN D.GR) (nN D.MO) (nN D.HL) (nN D.HU) pc pl aq sp st nw br o)) := by
  have hG := hD.G
  refine tk_iconst (pc := 0) (v := -1) d_M_bound_0 (by decide) ?_
  refine tk_istore2 (pc := 1) d_M_bound_1 rfl (by decide) ?_
  refine tk_iconst (pc := 2) (v := 0) d_M_bound_2 (by decide) ?_
  refine tk_istore3 (pc := 3) d_M_bound_3 rfl (by decide) ?_
  have key : ∀ (m k : Nat) (o4 : Option Value), k + m = D.G → tk_T y_M_bound c_M_bound 5 (some .long) [] 10 0 0 (fun _ => none) 0 0 Q 4 [some (.ref 29), some (.int i), some (.int (oI (bst D k))), some (.int (nI k)), o4] [] (wd g h p c (md th (nI D.G) (nN D.K) (nN D.C) (nN D.S) (nN D.L) (nN D.A) (nN D.B) (nI D.H) (nN D.LE) (nN D.GR) (nN D.MO) (nN D.HL) (nN D.HU) pc pl aq sp st nw br o)) := by
    intro m
    induction m with
    | zero =>
      intro k o4 hk
      obtain rfl : k = D.G := by omega
      refine tk_iload_n (pc := 4) d_M_bound_4 rfl ?_
      refine tk_aload_n (pc := 5) d_M_bound_5 rfl ?_
      refine tk_get (pc := 6) d_M_bound_6 f_M_60 rfl rfl ?_
      refine tk_icmp_ge (pc := 9) (tgt := 98) d_M_bound_9 (by decide) (fun hb => ?_) (fun hb => ?_)
      · exact K o4
      · exact absurd (nI_le (Nat.le_refl _) (by omega)) hb
    | succ m ih =>
      intro k o4 hk
      have hR := hD.R k
      refine tk_iload_n (pc := 4) d_M_bound_4 rfl ?_
      refine tk_aload_n (pc := 5) d_M_bound_5 rfl ?_
      refine tk_get (pc := 6) d_M_bound_6 f_M_60 rfl rfl ?_
      refine tk_icmp_ge (pc := 9) (tgt := 98) d_M_bound_9 (by decide) (fun hb => ?_) (fun hb => ?_)
      · exact absurd hb (nI_ge (by omega) (by omega))
      have nx : tk_T y_M_bound c_M_bound 5 (some .long) [] 10 0 0 (fun _ => none) 0 0 Q 71 [some (.ref 29), some (.int i), some (.int (oI (bst D k))), some (.int (nI k)), o4] [.int (if lsc D k (bst D k) = true then 1 else 0)] (wd g h p c (md th (nI D.G) (nN D.K) (nN D.C) (nN D.S) (nN D.L) (nN D.A) (nN D.B) (nI D.H) (nN D.LE) (nN D.GR) (nN D.MO) (nN D.HL) (nN D.HU) pc pl aq sp st nw br o)) := by
        refine tk_istore4 (pc := 71) d_M_bound_71 rfl (by decide) ?_
        refine tk_aload_n (pc := 73) d_M_bound_73 rfl ?_
        refine tk_iload_n (pc := 74) d_M_bound_74 rfl ?_
        refine tk_callVr (pc := 75) d_M_bound_75 l_M_111 k_M_top rfl rfl rfl (m_topD hD (k := k) (by omega)) rfl (by omega) (Nat.le_of_ble_eq_true rfl) (Nat.le_of_ble_eq_true rfl) (Nat.le_of_ble_eq_true rfl) rfl rfl ?_
        have fin : ∀ (q : Int32), q = oI (bst D (k + 1)) → tk_T y_M_bound c_M_bound 5 (some .long) [] 10 0 0 (fun _ => none) 0 0 Q 91 [some (.ref 29), some (.int i), some (.int (oI (bst D k))), some (.int (nI k)), some (.int (if lsc D k (bst D k) = true then 1 else 0))] [.int q] (wd g h p c (md th (nI D.G) (nN D.K) (nN D.C) (nN D.S) (nN D.L) (nN D.A) (nN D.B) (nI D.H) (nN D.LE) (nN D.GR) (nN D.MO) (nN D.HL) (nN D.HU) pc pl aq sp st nw br o)) := by
          intro q hq
          refine tk_istore2 (pc := 91) d_M_bound_91 rfl (by decide) ?_
          refine tk_jinc3 (pc := 92) d_M_bound_92 rfl (by decide) ?_
          refine tk_goto (pc := 95) (tgt := 4) d_M_bound_95 (by decide) ?_
          exact tk_eq rfl (by rw [inc1, hq]) rfl rfl (ih (k + 1) (some (.int (if lsc D k (bst D k) = true then 1 else 0))) (by omega))
        refine tk_if_le (pc := 78) (tgt := 90) d_M_bound_78 (by decide) (fun hc => ?_) (fun hc => ?_)
        · refine tk_iload_n (pc := 90) d_M_bound_90 rfl ?_
          refine fin _ ?_
          have : ¬ 0 < D.R k := fun q => nI_nle q (by omega) hc
          simp only [bst]
          rw [if_neg (fun q => this q.1)]
        have hR0 : 0 < D.R k := by
          rcases Nat.eq_zero_or_pos (D.R k) with q | q
          · exact absurd (by rw [q]; decide) hc
          · exact q
        refine tk_iload (pc := 81) d_M_bound_81 rfl ?_
        refine tk_if_eq (pc := 83) (tgt := 90) d_M_bound_83 (by decide) (fun he => ?_) (fun he => ?_)
        · refine tk_iload_n (pc := 90) d_M_bound_90 rfl ?_
          refine fin _ ?_
          have : ¬ lsc D k (bst D k) = true := fun q => by rw [if_pos q] at he; exact absurd he (by decide)
          simp only [bst]
          rw [if_neg (fun q => this q.2)]
        · refine tk_iload_n (pc := 86) d_M_bound_86 rfl ?_
          refine tk_goto (pc := 87) (tgt := 91) d_M_bound_87 (by decide) ?_
          refine fin _ ?_
          have : lsc D k (bst D k) = true := Decidable.byContradiction (fun q => by rw [if_neg q] at he; exact he rfl)
          simp only [bst]
          rw [if_pos ⟨hR0, this⟩]
          rfl
      refine tk_iload_n (pc := 12) d_M_bound_12 rfl ?_
      cases hbs : bst D k with
      | none =>
        rw [hbs] at nx
        refine tk_if_lt (pc := 13) (tgt := 66) d_M_bound_13 (by decide) (fun hc => ?_) (fun hc => ?_)
        · refine tk_iconst (pc := 66) (v := 1) d_M_bound_66 (by decide) ?_
          refine tk_goto (pc := 67) (tgt := 71) d_M_bound_67 (by decide) ?_
          exact nx
        · exact absurd oI_none hc
      | some b =>
        rw [hbs] at nx
        have hb1 := (bst_lt D k b hbs).1
        refine tk_if_lt (pc := 13) (tgt := 66) d_M_bound_13 (by decide) (fun hc => ?_) (fun hc => ?_)
        · exact absurd hc (oI_some (by omega))
        refine tk_aload_n (pc := 16) d_M_bound_16 rfl ?_
        refine tk_get (pc := 17) d_M_bound_17 f_M_13 rfl rfl ?_
        refine tk_iload_n (pc := 20) d_M_bound_20 rfl ?_
        refine tk_iald (pc := 21) k d_M_bound_21 rfl rfl (by omega) (by decide) ?_
        refine tk_i2l (pc := 22) d_M_bound_22 ?_
        refine tk_aload_n (pc := 23) d_M_bound_23 rfl ?_
        refine tk_get (pc := 24) d_M_bound_24 f_M_7 rfl rfl ?_
        refine tk_iload_n (pc := 27) d_M_bound_27 rfl ?_
        refine tk_if_ge (pc := 28) (tgt := 35) d_M_bound_28 (by decide) (fun hd => ?_) (fun hd => ?_)
        · refine tk_iload_n (pc := 35) d_M_bound_35 rfl ?_
          refine tk_iald (pc := 36) b d_M_bound_36 rfl rfl (by omega) (by decide) ?_
          refine tk_i2l (pc := 37) d_M_bound_37 ?_
          refine tk_lmul (pc := 38) d_M_bound_38 ?_
          refine tk_aload_n (pc := 39) d_M_bound_39 rfl ?_
          refine tk_get (pc := 40) d_M_bound_40 f_M_13 rfl rfl ?_
          refine tk_iload_n (pc := 43) d_M_bound_43 rfl ?_
          refine tk_if_ge (pc := 44) (tgt := 51) d_M_bound_44 (by decide) (fun he => ?_) (fun he => ?_)
          · refine tk_iload_n (pc := 51) d_M_bound_51 rfl ?_
            refine tk_iald (pc := 52) b d_M_bound_52 rfl rfl (by omega) (by decide) ?_
            refine tk_i2l (pc := 53) d_M_bound_53 ?_
            refine tk_aload_n (pc := 54) d_M_bound_54 rfl ?_
            refine tk_get (pc := 55) d_M_bound_55 f_M_7 rfl rfl ?_
            refine tk_iload_n (pc := 58) d_M_bound_58 rfl ?_
            refine tk_iald (pc := 59) k d_M_bound_59 rfl rfl (by omega) (by decide) ?_
            refine tk_i2l (pc := 60) d_M_bound_60 ?_
            refine tk_lmul (pc := 61) d_M_bound_61 ?_
            have c1 := hD.C k
            have c2 := hD.C b
            have k1 := hD.K k
            have k2 := hD.K b
            have m1 : D.C k * D.K b ≤ 100000 * 1000 := Nat.mul_le_mul c1 k2
            have m2 : D.C b * D.K k ≤ 100000 * 1000 := Nat.mul_le_mul c2 k1
            have e1 : (nN D.C k).toInt64 * (nN D.K b).toInt64 = lN (D.C k * D.K b) := by
              rw [show nN D.C k = nI (D.C k) from rfl, show nN D.K b = nI (D.K b) from rfl, nI_l (by omega), nI_l (by omega), lN_mul]
            have e2 : (nN D.C b).toInt64 * (nN D.K k).toInt64 = lN (D.C b * D.K k) := by
              rw [show nN D.C b = nI (D.C b) from rfl, show nN D.K k = nI (D.K k) from rfl, nI_l (by omega), nI_l (by omega), lN_mul]
            rw [e1, e2]
            refine tk_lcmp (pc := 62) d_M_bound_62 ?_
            refine tk_if_ge (pc := 63) (tgt := 70) d_M_bound_63 (by decide) (fun hf => ?_) (fun hf => ?_)
            · refine tk_iconst (pc := 70) (v := 0) d_M_bound_70 (by decide) ?_
              have hf' := (pk_lLE (by omega) (by omega)).mp ((lg_cmp_ge _ _).mp hf)
              rw [if_neg (by simp only [lsc]; rw [decide_eq_true_eq]; omega)] at nx
              exact nx
            · refine tk_iconst (pc := 66) (v := 1) d_M_bound_66 (by decide) ?_
              refine tk_goto (pc := 67) (tgt := 71) d_M_bound_67 (by decide) ?_
              have hf' : D.C k * D.K b < D.C b * D.K k := by
                rcases Nat.lt_or_ge (D.C k * D.K b) (D.C b * D.K k) with q | q
                · exact q
                · exact absurd ((lg_cmp_ge _ _).mpr ((pk_lLE (by omega) (by omega)).mpr q)) hf
              rw [if_pos (by simp only [lsc]; rw [decide_eq_true_eq]; omega)] at nx
              exact nx
          · exact absurd (nI_pos' (n := b) (by omega)) he
        · exact absurd (nI_pos' (n := b) (by omega)) hd
  exact key D.G 0 none (by omega)
theorem r_bound_1 {i : Int32} (hD : D.ok) (hi : i < 0 ∨ ¬ i < nI D.H) : tk_M y_M_bound w_M_bound 10 0 0 [.ref 29, .int i] (wd g h p c (md th (nI D.G) (nN D.K) (nN D.C) (nN D.S) (nN D.L) (nN D.A) (nN D.B) (nI D.H) (nN D.LE) (nN D.GR) (nN D.MO) (nN D.HL) (nN D.HU) pc pl aq sp st nw br o)) (tk_det (.inl (some (.long 0))) (wd g h p c (md 1 (nI D.G) (nN D.K) (nN D.C) (nN D.S) (nN D.L) (nN D.A) (nN D.B) (nI D.H) (nN D.LE) (nN D.GR) (nN D.MO) (nN D.HL) (nN D.HU) pc pl aq sp st nw br o))) := by
  have hH := hD.H
  refine tk_M.of (lv := [some (.ref 29), some (.int i), none, none, none]) (by decide) (Nat.le_of_ble_eq_true rfl) rfl ?_
  refine m_bst hD (fun o4 => ?_)
  refine tk_aload_n (pc := 98) d_M_bound_98 rfl ?_
  refine tk_aload_n (pc := 99) d_M_bound_99 rfl ?_
  refine tk_iload_n (pc := 100) d_M_bound_100 rfl ?_
  refine tk_callVr (pc := 101) d_M_bound_101 l_M_92 k_M_isHeat rfl rfl rfl (m_isHeat_n hi (by omega)) rfl (by omega) (Nat.le_of_ble_eq_true rfl) (Nat.le_of_ble_eq_true rfl) (Nat.le_of_ble_eq_true rfl) rfl rfl ?_
  refine tk_if_ne (pc := 104) (tgt := 111) d_M_bound_104 (by decide) (fun hb => ?_) (fun hb => ?_)
  · exact absurd rfl hb
  refine tk_iconst (pc := 107) (v := 1) d_M_bound_107 (by decide) ?_
  refine tk_goto (pc := 108) (tgt := 112) d_M_bound_108 (by decide) ?_
  refine tk_iload_n (pc := 112) d_M_bound_112 rfl ?_
  have tl : ∀ q : Int32, tk_T y_M_bound c_M_bound 5 (some .long) [] 10 0 0 (fun _ => none) 0 0 (tk_det (.inl (some (.long 0))) (wd g h p c (md 1 (nI D.G) (nN D.K) (nN D.C) (nN D.S) (nN D.L) (nN D.A) (nN D.B) (nI D.H) (nN D.LE) (nN D.GR) (nN D.MO) (nN D.HL) (nN D.HU) pc pl aq sp st nw br o))) 121 [some (.ref 29), some (.int i), some (.int (oI (bst D D.G))), some (.int (nI D.G)), o4] [.int q, .int 1, .ref 29] (wd g h p c (md th (nI D.G) (nN D.K) (nN D.C) (nN D.S) (nN D.L) (nN D.A) (nN D.B) (nI D.H) (nN D.LE) (nN D.GR) (nN D.MO) (nN D.HL) (nN D.HU) pc pl aq sp st nw br o)) := by
    intro q
    refine tk_iconst (pc := 121) (v := 0) d_M_bound_121 (by decide) ?_
    refine tk_callVr (pc := 122) d_M_bound_122 l_M_76 k_M_throwing rfl rfl rfl (m_t1 (y := q) (z := 0)) rfl (by omega) (Nat.le_of_ble_eq_true rfl) (Nat.le_of_ble_eq_true rfl) (Nat.le_of_ble_eq_true rfl) rfl rfl ?_
    refine tk_if_eq (pc := 125) (tgt := 130) d_M_bound_125 (by decide) (fun hc => ?_) (fun hc => ?_)
    · exact absurd hc (by decide)
    refine tk_lconst (pc := 128) (v := 0) d_M_bound_128 (by decide) ?_
    exact tk_lreturn (pc := 129) d_M_bound_129 rfl (Nat.le_of_ble_eq_true rfl) (Nat.le_of_ble_eq_true rfl) ⟨rfl, rfl⟩
  refine tk_if_ge (pc := 113) (tgt := 120) d_M_bound_113 (by decide) (fun hc => ?_) (fun hc => ?_)
  · refine tk_iconst (pc := 120) (v := 0) d_M_bound_120 (by decide) ?_
    exact tl 0
  · refine tk_iconst (pc := 116) (v := 1) d_M_bound_116 (by decide) ?_
    refine tk_goto (pc := 117) (tgt := 121) d_M_bound_117 (by decide) ?_
    exact tl 1
theorem r_bound_2 {i : Nat} (hD : D.ok) (hi : i < D.H) (hbs : bst D D.G = none) : tk_M y_M_bound w_M_bound 10 0 0 [.ref 29, .int (nI i)] (wd g h p c (md th (nI D.G) (nN D.K) (nN D.C) (nN D.S) (nN D.L) (nN D.A) (nN D.B) (nI D.H) (nN D.LE) (nN D.GR) (nN D.MO) (nN D.HL) (nN D.HU) pc pl aq sp st nw br o)) (tk_det (.inl (some (.long 0))) (wd g h p c (md 2 (nI D.G) (nN D.K) (nN D.C) (nN D.S) (nN D.L) (nN D.A) (nN D.B) (nI D.H) (nN D.LE) (nN D.GR) (nN D.MO) (nN D.HL) (nN D.HU) pc pl aq sp st nw br o))) := by
  have hH := hD.H
  refine tk_M.of (lv := [some (.ref 29), some (.int (nI i)), none, none, none]) (by decide) (Nat.le_of_ble_eq_true rfl) rfl ?_
  refine m_bst hD (fun o4 => ?_)
  rw [hbs]
  refine tk_aload_n (pc := 98) d_M_bound_98 rfl ?_
  refine tk_aload_n (pc := 99) d_M_bound_99 rfl ?_
  refine tk_iload_n (pc := 100) d_M_bound_100 rfl ?_
  refine tk_callVr (pc := 101) d_M_bound_101 l_M_92 k_M_isHeat rfl rfl rfl (m_isHeat_y hi (by omega)) rfl (by omega) (Nat.le_of_ble_eq_true rfl) (Nat.le_of_ble_eq_true rfl) (Nat.le_of_ble_eq_true rfl) rfl rfl ?_
  refine tk_if_ne (pc := 104) (tgt := 111) d_M_bound_104 (by decide) (fun hb => ?_) (fun hb => ?_)
  · refine tk_iconst (pc := 111) (v := 0) d_M_bound_111 (by decide) ?_
    refine tk_iload_n (pc := 112) d_M_bound_112 rfl ?_
    refine tk_if_ge (pc := 113) (tgt := 120) d_M_bound_113 (by decide) (fun hc => ?_) (fun hc => ?_)
    · exact absurd hc (by decide)
    refine tk_iconst (pc := 116) (v := 1) d_M_bound_116 (by decide) ?_
    refine tk_goto (pc := 117) (tgt := 121) d_M_bound_117 (by decide) ?_
    refine tk_iconst (pc := 121) (v := 0) d_M_bound_121 (by decide) ?_
    refine tk_callVr (pc := 122) d_M_bound_122 l_M_76 k_M_throwing rfl rfl rfl (m_t2 (z := 0)) rfl (by omega) (Nat.le_of_ble_eq_true rfl) (Nat.le_of_ble_eq_true rfl) (Nat.le_of_ble_eq_true rfl) rfl rfl ?_
    refine tk_if_eq (pc := 125) (tgt := 130) d_M_bound_125 (by decide) (fun hc => ?_) (fun hc => ?_)
    · exact absurd hc (by decide)
    refine tk_lconst (pc := 128) (v := 0) d_M_bound_128 (by decide) ?_
    exact tk_lreturn (pc := 129) d_M_bound_129 rfl (Nat.le_of_ble_eq_true rfl) (Nat.le_of_ble_eq_true rfl) ⟨rfl, rfl⟩
  · exact absurd hb (by decide)
theorem r_bound_0 {i b : Nat} (hD : D.ok) (hi : i < D.H) (hbs : bst D D.G = some b) : tk_M y_M_bound w_M_bound 10 0 0 [.ref 29, .int (nI i)] (wd g h p c (md th (nI D.G) (nN D.K) (nN D.C) (nN D.S) (nN D.L) (nN D.A) (nN D.B) (nI D.H) (nN D.LE) (nN D.GR) (nN D.MO) (nN D.HL) (nN D.HU) pc pl aq sp st nw br o)) (tk_det (.inl (some (.long (lN ((D.LE i * D.C b + D.K b - 1) / D.K b))))) (wd g h p c (md 0 (nI D.G) (nN D.K) (nN D.C) (nN D.S) (nN D.L) (nN D.A) (nN D.B) (nI D.H) (nN D.LE) (nN D.GR) (nN D.MO) (nN D.HL) (nN D.HU) pc pl aq sp st nw br o))) := by
  have hH := hD.H
  have hG := hD.G
  have hb1 := (bst_lt D D.G b hbs).1
  have k1 := hD.K1 b hb1
  have k2 := hD.K b
  have c2 := hD.C b
  have l2 := hD.LE i
  have m1 : D.LE i * D.C b ≤ 100000 * 100000 := Nat.mul_le_mul l2 c2
  refine tk_M.of (lv := [some (.ref 29), some (.int (nI i)), none, none, none]) (by decide) (Nat.le_of_ble_eq_true rfl) rfl ?_
  refine m_bst hD (fun o4 => ?_)
  rw [hbs]
  refine tk_aload_n (pc := 98) d_M_bound_98 rfl ?_
  refine tk_aload_n (pc := 99) d_M_bound_99 rfl ?_
  refine tk_iload_n (pc := 100) d_M_bound_100 rfl ?_
  refine tk_callVr (pc := 101) d_M_bound_101 l_M_92 k_M_isHeat rfl rfl rfl (m_isHeat_y hi (by omega)) rfl (by omega) (Nat.le_of_ble_eq_true rfl) (Nat.le_of_ble_eq_true rfl) (Nat.le_of_ble_eq_true rfl) rfl rfl ?_
  refine tk_if_ne (pc := 104) (tgt := 111) d_M_bound_104 (by decide) (fun hb => ?_) (fun hb => ?_)
  · refine tk_iconst (pc := 111) (v := 0) d_M_bound_111 (by decide) ?_
    refine tk_iload_n (pc := 112) d_M_bound_112 rfl ?_
    refine tk_if_ge (pc := 113) (tgt := 120) d_M_bound_113 (by decide) (fun hc => ?_) (fun hc => ?_)
    · refine tk_iconst (pc := 120) (v := 0) d_M_bound_120 (by decide) ?_
      refine tk_iconst (pc := 121) (v := 0) d_M_bound_121 (by decide) ?_
      refine tk_callVr (pc := 122) d_M_bound_122 l_M_76 k_M_throwing rfl rfl rfl (m_t0) rfl (by omega) (Nat.le_of_ble_eq_true rfl) (Nat.le_of_ble_eq_true rfl) (Nat.le_of_ble_eq_true rfl) rfl rfl ?_
      refine tk_if_eq (pc := 125) (tgt := 130) d_M_bound_125 (by decide) (fun hd => ?_) (fun hd => ?_)
      · refine tk_aload_n (pc := 130) d_M_bound_130 rfl ?_
        refine tk_get (pc := 131) d_M_bound_131 f_M_28 rfl rfl ?_
        refine tk_iload_n (pc := 134) d_M_bound_134 rfl ?_
        refine tk_iald (pc := 135) i d_M_bound_135 rfl rfl (by omega) (by decide) ?_
        refine tk_i2l (pc := 136) d_M_bound_136 ?_
        refine tk_aload_n (pc := 137) d_M_bound_137 rfl ?_
        refine tk_get (pc := 138) d_M_bound_138 f_M_13 rfl rfl ?_
        refine tk_iload_n (pc := 141) d_M_bound_141 rfl ?_
        refine tk_iald (pc := 142) b d_M_bound_142 rfl rfl (by omega) (by decide) ?_
        refine tk_i2l (pc := 143) d_M_bound_143 ?_
        refine tk_lmul (pc := 144) d_M_bound_144 ?_
        refine tk_aload_n (pc := 145) d_M_bound_145 rfl ?_
        refine tk_get (pc := 146) d_M_bound_146 f_M_7 rfl rfl ?_
        refine tk_iload_n (pc := 149) d_M_bound_149 rfl ?_
        refine tk_iald (pc := 150) b d_M_bound_150 rfl rfl (by omega) (by decide) ?_
        refine tk_i2l (pc := 151) d_M_bound_151 ?_
        refine tk_ladd (pc := 152) d_M_bound_152 ?_
        refine tk_lconst (pc := 153) (v := 1) d_M_bound_153 (by decide) ?_
        refine tk_lsub (pc := 154) d_M_bound_154 ?_
        refine tk_aload_n (pc := 155) d_M_bound_155 rfl ?_
        refine tk_get (pc := 156) d_M_bound_156 f_M_7 rfl rfl ?_
        refine tk_iload_n (pc := 159) d_M_bound_159 rfl ?_
        refine tk_iald (pc := 160) b d_M_bound_160 rfl rfl (by omega) (by decide) ?_
        refine tk_i2l (pc := 161) d_M_bound_161 ?_
        have e1 : (nN D.LE i).toInt64 * (nN D.C b).toInt64 + (nN D.K b).toInt64 - 1 = lN (D.LE i * D.C b + D.K b - 1) := by
          rw [show nN D.LE i = nI (D.LE i) from rfl, show nN D.C b = nI (D.C b) from rfl, show nN D.K b = nI (D.K b) from rfl, nI_l (by omega), nI_l (by omega), nI_l (by omega), lN_mul, lN_add, show (1 : Int64) = lN 1 from rfl, lN_sub (by omega)]
        have e2 : (nN D.K b).toInt64 = lN (D.K b) := by rw [show nN D.K b = nI (D.K b) from rfl, nI_l (by omega)]
        rw [e1, e2]
        refine tk_ldiv (pc := 162) d_M_bound_162 (fun q => by have := (pk_lEQ (a := D.K b) (b := 0) (by omega) (by decide)).mp q; omega) ?_
        exact tk_lreturn (pc := 163) d_M_bound_163 rfl (Nat.le_of_ble_eq_true rfl) (Nat.le_of_ble_eq_true rfl) ⟨by rw [pk_lDiv (by omega) (by omega) (by omega)], rfl⟩
      · exact absurd rfl hd
    · exact absurd (nI_pos' (n := b) (by omega)) hc
  · exact absurd hb (by decide)
/-! worst -/
theorem m_common {w : tk_W} {a b : Nat} (ha : a < 2 ^ 63) (hb : b < 2 ^ 63) : tk_M y_M_common w_M_common 0 0 0 [.long (lN a), .long (lN b)] w (tk_det (.inl (some (.long (lN (Nat.gcd a b))))) w) := by
  refine tk_M.of (lv := [some (.long (lN a)), none, some (.long (lN b)), none, none, none, none, none, none, none]) (by decide) (Nat.le_of_ble_eq_true rfl) rfl ?_
  refine tk_lload_n (pc := 0) d_M_common_0 rfl ?_
  refine tk_lstore4 (pc := 1) d_M_common_1 rfl (by decide) ?_
  refine tk_lload_n (pc := 3) d_M_common_3 rfl ?_
  refine tk_lstore6 (pc := 4) d_M_common_4 rfl (by decide) ?_
  have key : ∀ (m y x : Nat) (o8 : Option Value), y ≤ m → x < 2 ^ 63 → y < 2 ^ 63 → Nat.gcd x y = Nat.gcd a b → tk_T y_M_common c_M_common 10 (some .long) [] 0 0 0 (fun _ => none) 0 0 (tk_det (.inl (some (.long (lN (Nat.gcd a b))))) w) 6 [some (.long (lN a)), none, some (.long (lN b)), none, some (.long (lN x)), none, some (.long (lN y)), none, o8, none] [] w := by
    intro m
    induction m with
    | zero =>
      intro y x o8 hy hx hy2 hg
      obtain rfl : y = 0 := by omega
      refine tk_lload (pc := 6) d_M_common_6 rfl ?_
      refine tk_lconst (pc := 8) (v := 0) d_M_common_8 (by decide) ?_
      refine tk_lcmp (pc := 9) d_M_common_9 ?_
      refine tk_if_le (pc := 10) (tgt := 31) d_M_common_10 (by decide) (fun hc => ?_) (fun hc => ?_)
      · refine tk_lload (pc := 31) d_M_common_31 rfl ?_
        exact tk_lreturn (pc := 33) d_M_common_33 rfl (Nat.le_of_ble_eq_true rfl) (Nat.le_of_ble_eq_true rfl) ⟨by rw [← hg, Nat.gcd_zero_right], rfl⟩
      · exact absurd ((lg_cmp_le _ _).mpr (show lN 0 ≤ 0 from by decide)) hc
    | succ m ih =>
      intro y x o8 hy hx hy2 hg
      refine tk_lload (pc := 6) d_M_common_6 rfl ?_
      refine tk_lconst (pc := 8) (v := 0) d_M_common_8 (by decide) ?_
      refine tk_lcmp (pc := 9) d_M_common_9 ?_
      refine tk_if_le (pc := 10) (tgt := 31) d_M_common_10 (by decide) (fun hc => ?_) (fun hc => ?_)
      · obtain rfl : y = 0 := by
          have := (pk_lLE (a := y) (b := 0) hy2 (by decide)).mp ((lg_cmp_le _ _).mp hc)
          omega
        refine tk_lload (pc := 31) d_M_common_31 rfl ?_
        exact tk_lreturn (pc := 33) d_M_common_33 rfl (Nat.le_of_ble_eq_true rfl) (Nat.le_of_ble_eq_true rfl) ⟨by rw [← hg, Nat.gcd_zero_right], rfl⟩
      · have hy0 : 0 < y := by
          rcases Nat.eq_zero_or_pos y with q | q
          · exact absurd ((lg_cmp_le _ _).mpr (by rw [q]; decide)) hc
          · exact q
        have hlt := Nat.mod_lt x hy0
        refine tk_lload (pc := 13) d_M_common_13 rfl ?_
        refine tk_lload (pc := 15) d_M_common_15 rfl ?_
        refine tk_lrem (pc := 17) d_M_common_17 (fun q => by have := (pk_lEQ (a := y) (b := 0) (by omega) (by decide)).mp q; omega) ?_
        rw [pk_lRem hx hy0 hy2]
        refine tk_lstore8 (pc := 18) d_M_common_18 rfl (by decide) ?_
        refine tk_lload (pc := 20) d_M_common_20 rfl ?_
        refine tk_lstore4 (pc := 22) d_M_common_22 rfl (by decide) ?_
        refine tk_lload (pc := 24) d_M_common_24 rfl ?_
        refine tk_lstore6 (pc := 26) d_M_common_26 rfl (by decide) ?_
        refine tk_goto (pc := 28) (tgt := 6) d_M_common_28 (by decide) ?_
        refine ih (x % y) y (some (.long (lN (x % y)))) (by omega) hy2 (by omega) ?_
        rw [← hg, Nat.gcd_comm x y, Nat.gcd_rec y x, Nat.gcd_comm]
  exact key b b a none (Nat.le_refl _) ha hb rfl
end REF5
