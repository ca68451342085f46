/-! ===== the reference: plan, whole ===== -/
section REF8
variable {g : sG} {h : sH} {p : sP} {c : sC} {th gn : Int32} {mk mc ms ml ma mb : Ar} {hn : Int32} {le gr mo hl hu pc pl : Ar} {aq sp st : Int32} {nw br : Ar} {o : Nat → Int64} {n : Nat} {D : Dt} {v : Nat → Nat}
theorem r_plan_1 {i a : Int32} (hn' : n < 5) (hi : i < 0 ∨ ¬ i < nI n) : tk_M y_M_plan w_M_plan 10 0 0 [.ref 29, .int i, .int a] (wd g h p c (md th gn mk mc ms ml ma mb (nI n) le gr mo hl hu pc pl aq sp st nw br o)) (tk_det (.inl (some (.int 0))) (wd g h p c (md 1 gn mk mc ms ml ma mb (nI n) le gr mo hl hu pc pl aq sp st nw br o))) := by
  refine tk_M.of (lv := [some (.ref 29), some (.int i), some (.int a), none, none]) (by decide) (Nat.le_of_ble_eq_true rfl) rfl ?_
  have tl : ∀ q : Int32, tk_T y_M_plan c_M_plan 5 (some .int) [] 10 0 0 (fun _ => none) 0 0 (tk_det (.inl (some (.int 0))) (wd g h p c (md 1 gn mk mc ms ml ma mb (nI n) le gr mo hl hu pc pl aq sp st nw br o))) 31 [some (.ref 29), some (.int i), some (.int a), none, none] [.int q, .int 1, .ref 29] (wd g h p c (md th gn mk mc ms ml ma mb (nI n) le gr mo hl hu pc pl aq sp st nw br o)) := by
    intro q
    refine tk_iconst (pc := 31) (v := 0) d_M_plan_31 (by decide) ?_
    refine tk_callVr (pc := 32) d_M_plan_32 l_M_76 k_M_throwing rfl rfl rfl (m_t1 (y := q) (z := 0)) rfl (by omega) (Nat.le_of_ble_eq_true rfl) (Nat.le_of_ble_eq_true rfl) (Nat.le_of_ble_eq_true rfl) rfl rfl ?_
    refine tk_if_eq (pc := 35) (tgt := 40) d_M_plan_35 (by decide) (fun hc => ?_) (fun hc => ?_)
    · exact absurd hc (by decide)
    refine tk_iconst (pc := 38) (v := 0) d_M_plan_38 (by decide) ?_
    exact tk_ireturn (pc := 39) d_M_plan_39 rfl rfl (Nat.le_of_ble_eq_true rfl) (Nat.le_of_ble_eq_true rfl) ⟨rfl, rfl⟩
  refine tk_aload_n (pc := 0) d_M_plan_0 rfl ?_
  refine tk_aload_n (pc := 1) d_M_plan_1 rfl ?_
  refine tk_iload_n (pc := 2) d_M_plan_2 rfl ?_
  refine tk_callVr (pc := 3) d_M_plan_3 l_M_92 k_M_isHeat rfl rfl rfl (m_isHeat_n hi (by omega)) rfl (by omega) (Nat.le_of_ble_eq_true rfl) (Nat.le_of_ble_eq_true rfl) (Nat.le_of_ble_eq_true rfl) rfl rfl ?_
  refine tk_if_ne (pc := 6) (tgt := 13) d_M_plan_6 (by decide) (fun hb => ?_) (fun hb => ?_)
  · exact absurd rfl hb
  refine tk_iconst (pc := 9) (v := 1) d_M_plan_9 (by decide) ?_
  refine tk_goto (pc := 10) (tgt := 14) d_M_plan_10 (by decide) ?_
  refine tk_iload_n (pc := 14) d_M_plan_14 rfl ?_
  refine tk_i2l (pc := 15) d_M_plan_15 ?_
  refine tk_lconst (pc := 16) (v := 0) d_M_plan_16 (by decide) ?_
  refine tk_ldc2 (pc := 17) d_M_plan_17 q_M_72 ?_
  refine tk_callSr (pc := 20) d_M_plan_20 l_M_63 k_M_in (m_inI (x := a) (lo := 0) (hi := 100000) rfl rfl) rfl (by omega) (Nat.le_of_ble_eq_true rfl) (Nat.le_of_ble_eq_true rfl) (Nat.le_of_ble_eq_true rfl) rfl rfl ?_
  refine tk_if_ne (pc := 23) (tgt := 30) d_M_plan_23 (by decide) (fun hc => ?_) (fun hc => ?_)
  · refine tk_iconst (pc := 30) (v := 0) d_M_plan_30 (by decide) ?_
    exact tl 0
  · refine tk_iconst (pc := 26) (v := 1) d_M_plan_26 (by decide) ?_
    refine tk_goto (pc := 27) (tgt := 31) d_M_plan_27 (by decide) ?_
    exact tl 1
theorem r_plan_2 {i : Nat} {a : Int32} (hn' : n < 5) (hi : i < n) (ha : a < 0 ∨ 100000 < a) : tk_M y_M_plan w_M_plan 10 0 0 [.ref 29, .int (nI i), .int a] (wd g h p c (md th gn mk mc ms ml ma mb (nI n) le gr mo hl hu pc pl aq sp st nw br o)) (tk_det (.inl (some (.int 0))) (wd g h p c (md 2 gn mk mc ms ml ma mb (nI n) le gr mo hl hu pc pl aq sp st nw br o))) := by
  refine tk_M.of (lv := [some (.ref 29), some (.int (nI i)), some (.int a), none, none]) (by decide) (Nat.le_of_ble_eq_true rfl) rfl ?_
  refine tk_aload_n (pc := 0) d_M_plan_0 rfl ?_
  refine tk_aload_n (pc := 1) d_M_plan_1 rfl ?_
  refine tk_iload_n (pc := 2) d_M_plan_2 rfl ?_
  refine tk_callVr (pc := 3) d_M_plan_3 l_M_92 k_M_isHeat rfl rfl rfl (m_isHeat_y hi (by omega)) rfl (by omega) (Nat.le_of_ble_eq_true rfl) (Nat.le_of_ble_eq_true rfl) (Nat.le_of_ble_eq_true rfl) rfl rfl ?_
  refine tk_if_ne (pc := 6) (tgt := 13) d_M_plan_6 (by decide) (fun hb => ?_) (fun hb => ?_)
  · refine tk_iconst (pc := 13) (v := 0) d_M_plan_13 (by decide) ?_
    refine tk_iload_n (pc := 14) d_M_plan_14 rfl ?_
    refine tk_i2l (pc := 15) d_M_plan_15 ?_
    refine tk_lconst (pc := 16) (v := 0) d_M_plan_16 (by decide) ?_
    refine tk_ldc2 (pc := 17) d_M_plan_17 q_M_72 ?_
    refine tk_callSr (pc := 20) d_M_plan_20 l_M_63 k_M_in (m_in_no (x := a) (lo := 0) (hi := 100000) rfl rfl ha) rfl (by omega) (Nat.le_of_ble_eq_true rfl) (Nat.le_of_ble_eq_true rfl) (Nat.le_of_ble_eq_true rfl) rfl rfl ?_
    refine tk_if_ne (pc := 23) (tgt := 30) d_M_plan_23 (by decide) (fun hc => ?_) (fun hc => ?_)
    · exact absurd rfl hc
    refine tk_iconst (pc := 26) (v := 1) d_M_plan_26 (by decide) ?_
    refine tk_goto (pc := 27) (tgt := 31) d_M_plan_27 (by decide) ?_
    refine tk_iconst (pc := 31) (v := 0) d_M_plan_31 (by decide) ?_
    refine tk_callVr (pc := 32) d_M_plan_32 l_M_76 k_M_throwing rfl rfl rfl (m_t2 (z := 0)) rfl (by omega) (Nat.le_of_ble_eq_true rfl) (Nat.le_of_ble_eq_true rfl) (Nat.le_of_ble_eq_true rfl) rfl rfl ?_
    refine tk_if_eq (pc := 35) (tgt := 40) d_M_plan_35 (by decide) (fun hc => ?_) (fun hc => ?_)
    · exact absurd hc (by decide)
    refine tk_iconst (pc := 38) (v := 0) d_M_plan_38 (by decide) ?_
    exact tk_ireturn (pc := 39) d_M_plan_39 rfl rfl (Nat.le_of_ble_eq_true rfl) (Nat.le_of_ble_eq_true rfl) ⟨rfl, rfl⟩
  · exact absurd hb (by decide)
theorem brk_ne0 {f : Ar} {b : Nat} (h : ¬ f b ≤ 0) : ¬ brk f b 11 = 0 := by
  rw [brk_n _ _ _ (Nat.le_refl _)]
  have h1 : ∀ i, (brn f b (i + 1)).testBit 0 = true := by
    intro i
    induction i with
    | zero =>
      simp only [brn]
      rw [if_neg (by rw [Nat.add_zero]; exact h)]
      rfl
    | succ i ih =>
      show (if f (b + (i + 1)) ≤ 0 then brn f b (i + 1) else brn f b (i + 1) ||| 2 ^ (i + 1)).testBit 0 = true
      split
      · exact ih
      · rw [Nat.testBit_or, ih]; rfl
  have h2 := brn_lt f b 11
  intro q
  have := (nI_eq (b := 0) (by omega) (by decide)).mp q
  have h3 := h1 10
  rw [this] at h3
  exact absurd h3 (by decide)
set_option maxHeartbeats 2000000 in
theorem r_plan_0 {i a : Nat} {X : sT} {pcc bdc sb0 f ch be : Ar} (hD : D.ok) (hi : i < D.H) (ha : a ≤ 100000) (hf : ∀ c, c < 12 → c ≠ 0 → c ≠ 1 → c ≠ 10 → f c = 0) (hc0 : ∀ j, D.G ≤ j → ch j = 0)
    (hX : plX (gD D) (hHt D pcc bdc) D.G D.R i (nI a) sb0 f ch be = X) :
    tk_M y_M_plan w_M_plan 10 0 0 [.ref 29, .int (nI i), .int (nI a)] (wd g h p c (md th (nI D.G) (nN D.K) (nN D.C) (nN D.S) (nN D.L) (nN D.A) (nN D.B) (nI D.H) (nN D.LE) (nN D.GR) (nN D.MO) (nN D.HL) (nN D.HU) pc pl aq sp st nw br o)) (fun r w => ∃ nw', r = .inl (some (.int X.2.2.2.1)) ∧ w = rW g h p c D pc pl i br o X nw' ∧ GP D a X ∧ (X.2.2.2.2.2 = 0 ∨ X.2.2.2.2.2 = 1)) := by
  have hG := hD.G
  have hH := hD.H
  have bl := hD.LE i
  have bl1 := hD.LE1 i hi
  generalize hx0 : ((ldR f (hHt D pcc bdc) i, ch, be, -1, 0, 0) : sT) = x0
  have g0 : GP D a x0 := by
    subst hx0
    refine ⟨fun c hc c0 c1 c2 => ?_, hc0, Or.inl rfl, 0, by omega, rfl⟩
    show ldR f (hHt D pcc bdc) i c = 0
    simp only [ldR]
    rw [pk_un c2, pk_un c1, pk_un c0]; exact hf c hc c0 c1 c2
  have hX' : tryF D.G D.R (pbf (gD D) (hHt D pcc bdc) i sb0 D.G) (nI a) D.G 0 x0 = X := by rw [← hX, ← hx0]; rfl
  refine tk_M.of (lv := [some (.ref 29), some (.int (nI i)), some (.int (nI a)), none, none]) (by decide) (Nat.le_of_ble_eq_true rfl) rfl ?_
  refine tk_aload_n (pc := 0) d_M_plan_0 rfl ?_
  refine tk_aload_n (pc := 1) d_M_plan_1 rfl ?_
  refine tk_iload_n (pc := 2) d_M_plan_2 rfl ?_
  refine tk_callVr (pc := 3) d_M_plan_3 l_M_92 k_M_isHeat rfl rfl rfl (m_isHeat_y hi (by omega)) rfl (by omega) (Nat.le_of_ble_eq_true rfl) (Nat.le_of_ble_eq_true rfl) (Nat.le_of_ble_eq_true rfl) rfl rfl ?_
  refine tk_if_ne (pc := 6) (tgt := 13) d_M_plan_6 (by decide) (fun hb => ?_) (fun hb => ?_)
  · refine tk_iconst (pc := 13) (v := 0) d_M_plan_13 (by decide) ?_
    refine tk_iload_n (pc := 14) d_M_plan_14 rfl ?_
    refine tk_i2l (pc := 15) d_M_plan_15 ?_
    refine tk_lconst (pc := 16) (v := 0) d_M_plan_16 (by decide) ?_
    refine tk_ldc2 (pc := 17) d_M_plan_17 q_M_72 ?_
    refine tk_callSr (pc := 20) d_M_plan_20 l_M_63 k_M_in (m_in_yes (x := nI a) (lo := 0) (hi := 100000) rfl rfl (fun q => q.elim (nI_pos (by omega)) (fun z => nI_nlt (a := 100000) (b := a) (by omega) (by decide) z))) rfl (by omega) (Nat.le_of_ble_eq_true rfl) (Nat.le_of_ble_eq_true rfl) (Nat.le_of_ble_eq_true rfl) rfl rfl ?_
    refine tk_if_ne (pc := 23) (tgt := 30) d_M_plan_23 (by decide) (fun hc => ?_) (fun hc => ?_)
    · refine tk_iconst (pc := 30) (v := 0) d_M_plan_30 (by decide) ?_
      refine tk_iconst (pc := 31) (v := 0) d_M_plan_31 (by decide) ?_
      refine tk_callVr (pc := 32) d_M_plan_32 l_M_76 k_M_throwing rfl rfl rfl (m_t0) rfl (by omega) (Nat.le_of_ble_eq_true rfl) (Nat.le_of_ble_eq_true rfl) (Nat.le_of_ble_eq_true rfl) rfl rfl ?_
      refine tk_if_eq (pc := 35) (tgt := 40) d_M_plan_35 (by decide) (fun hd => ?_) (fun hd => ?_)
      · refine tk_aload_n (pc := 40) d_M_plan_40 rfl ?_
        refine tk_iconst (pc := 41) (v := 1) d_M_plan_41 (by decide) ?_
        refine tk_put (pc := 42) d_M_plan_42 f_M_101 p_M_16 rfl rfl rfl (Nat.le_of_ble_eq_true rfl) rfl ?_
        refine tk_aload_n (pc := 45) d_M_plan_45 rfl ?_
        refine tk_iconst (pc := 46) (v := 0) d_M_plan_46 (by decide) ?_
        refine tk_put (pc := 47) d_M_plan_47 f_M_105 p_M_17 rfl rfl rfl (Nat.le_of_ble_eq_true rfl) rfl ?_
        refine tk_aload_n (pc := 50) d_M_plan_50 rfl ?_
        refine tk_iconst (pc := 51) (v := 0) d_M_plan_51 (by decide) ?_
        refine tk_put (pc := 52) d_M_plan_52 f_M_108 p_M_18 rfl rfl rfl (Nat.le_of_ble_eq_true rfl) rfl ?_
        refine tk_aload_n (pc := 55) d_M_plan_55 rfl ?_
        refine tk_get (pc := 56) d_M_plan_56 f_M_43 rfl rfl ?_
        refine tk_iload_n (pc := 59) d_M_plan_59 rfl ?_
        refine tk_iconst (pc := 60) (v := -1) d_M_plan_60 (by decide) ?_
        refine tk_iast (pc := 61) i d_M_plan_61 rfl rfl (by omega) (by decide) ?_
        refine tk_iconst (pc := 62) (v := 0) d_M_plan_62 (by decide) ?_
        refine tk_istore3 (pc := 63) d_M_plan_63 rfl (by decide) ?_
        have ex : ∀ (nw' : Ar) (q : Int32) (o4 : Option Value), (q < 0 ∨ ¬ X.2.2.2.2.2 = 0) → GP D a X → (X.2.2.2.2.2 = 0 ∨ X.2.2.2.2.2 = 1) → rT g h p c D pc pl i br o a (fun r w => ∃ nw', r = .inl (some (.int X.2.2.2.1)) ∧ w = rW g h p c D pc pl i br o X nw' ∧ GP D a X ∧ (X.2.2.2.2.2 = 0 ∨ X.2.2.2.2.2 = 1)) 95 q o4 X nw' := by
          intro nw' q o4 hq hgp hs
          have ret : rT g h p c D pc pl i br o a (fun r w => ∃ nw', r = .inl (some (.int X.2.2.2.1)) ∧ w = rW g h p c D pc pl i br o X nw' ∧ GP D a X ∧ (X.2.2.2.2.2 = 0 ∨ X.2.2.2.2.2 = 1)) 264 q o4 X nw' := by
            refine tk_aload_n (pc := 264) d_M_plan_264 rfl ?_
            refine tk_get (pc := 265) d_M_plan_265 f_M_43 rfl rfl ?_
            refine tk_iload_n (pc := 268) d_M_plan_268 rfl ?_
            refine tk_iald (pc := 269) i d_M_plan_269 rfl rfl (by omega) (by decide) ?_
            rw [pk_us]
            exact tk_ireturn (pc := 270) d_M_plan_270 rfl rfl (Nat.le_of_ble_eq_true rfl) (Nat.le_of_ble_eq_true rfl) ⟨nw', rfl, rfl, hgp, hs⟩
          refine tk_iload_n (pc := 95) d_M_plan_95 rfl ?_
          refine tk_if_lt (pc := 96) (tgt := 264) d_M_plan_96 (by decide) (fun h1 => ?_) (fun h1 => ?_)
          · exact ret
          refine tk_aload_n (pc := 99) d_M_plan_99 rfl ?_
          refine tk_get (pc := 100) d_M_plan_100 f_M_105 rfl rfl ?_
          refine tk_if_ne (pc := 103) (tgt := 264) d_M_plan_103 (by decide) (fun h2 => ?_) (fun h2 => ?_)
          · exact ret
          · exact (hq.elim h1 (fun w => w h2)).elim
        have key : ∀ (m k : Nat), k + m = 5 → tk_T y_M_plan c_M_plan 5 (some .int) [] 10 0 0 (fun _ => none) 0 0 (fun r w => ∃ nw', r = .inl (some (.int X.2.2.2.1)) ∧ w = rW g h p c D pc pl i br o X nw' ∧ GP D a X ∧ (X.2.2.2.2.2 = 0 ∨ X.2.2.2.2.2 = 1)) 64 [some (.ref 29), some (.int (nI i)), some (.int (nI a)), some (.int (nI k)), none] [] (rW g h p c D pc pl i br o x0 (fil nw 0 k (-1))) := by
          intro m
          induction m with
          | zero =>
            intro k hk
            obtain rfl : k = 5 := by omega
            refine tk_iload_n (pc := 64) d_M_plan_64 rfl ?_
            refine tk_iconst (pc := 65) (v := 5) d_M_plan_65 (by decide) ?_
            refine tk_icmp_ge (pc := 66) (tgt := 82) d_M_plan_66 (by decide) (fun he => ?_) (fun he => ?_)
            · have hnw5 : ∀ j, j < 5 → fil nw 0 5 (-1) j = -1 := fun j hj => by simp only [fil]; rw [if_pos (by omega)]
              refine tk_aload_n (pc := 82) d_M_plan_82 rfl ?_
              refine tk_get (pc := 83) d_M_plan_83 f_M_60 rfl rfl ?_
              by_cases hG0 : D.G = 0
              · have hXx : X = x0 := by
                  rw [← hX', hG0]
                  show kih 0 x0 = x0
                  simp only [kih]
                  rw [if_neg (brk_ne0 ?_)]
                  rw [← hx0]
                  show ¬ ldR f (hHt D pcc bdc) i 0 ≤ 0
                  have : ldR f (hHt D pcc bdc) i 0 = nI (D.LE i) := rfl
                  rw [this]
                  exact nI_nle (by omega) (by omega)
                refine tk_if_le (pc := 86) (tgt := 93) d_M_plan_86 (by decide) (fun hf1 => ?_) (fun hf1 => ?_)
                · refine tk_iconst (pc := 93) (v := -1) d_M_plan_93 (by decide) ?_
                  refine tk_istore3 (pc := 94) d_M_plan_94 rfl (by decide) ?_
                  have := ex (fil nw 0 5 (-1)) (-1) none (Or.inl (by decide)) (by rw [hXx]; exact g0) (by rw [hXx, ← hx0]; exact Or.inl rfl)
                  rw [hXx] at this ⊢
                  exact this
                · exact absurd (by rw [hG0]; decide) hf1
              · refine tk_if_le (pc := 86) (tgt := 93) d_M_plan_86 (by decide) (fun hf1 => ?_) (fun hf1 => ?_)
                · exact absurd hf1 (nI_nle (by omega) (by omega))
                refine tk_iconst (pc := 89) (v := 0) d_M_plan_89 (by decide) ?_
                refine tk_goto (pc := 90) (tgt := 94) d_M_plan_90 (by decide) ?_
                refine tk_istore3 (pc := 94) d_M_plan_94 rfl (by decide) ?_
                obtain ⟨m, hm⟩ : ∃ m, D.G = m + 1 := ⟨D.G - 1, by omega⟩
                have hX2 : tryF D.G D.R (pbf (gD D) (hHt D pcc bdc) i sb0 D.G) (nI a) (m + 1) 0 x0 = X := by rw [← hX', ← hm]
                refine rp (pcc := pcc) (bdc := bdc) (sb0 := sb0) hD (by omega) ha m 0 (fun _ => 0) x0 _ none (by omega) ⟨g0, fun r hr => ?_, fun j hj => absurd hj (by omega), fun j _ hj => hnw5 j (by omega)⟩ (by rw [← hx0]) (fun nw' o4 h1 h2 => ?_) (fun nw' o4 j hj h1 h2 h3 => ?_)
                · obtain rfl : r = 0 := by omega
                  rw [← hx0]
                  exact row_ld hf
                · rw [hX2] at h1 h2 ⊢
                  exact ex nw' _ o4 (Or.inl (by decide)) h1.1 (Or.inl h2)
                · rw [hX2] at h1 h2 ⊢
                  exact ex nw' _ o4 (Or.inr (by rw [h2]; decide)) h1 (Or.inr h2)
            · exact absurd (show nI 5 ≤ nI 5 from by decide) he
          | succ m ih =>
            intro k hk
            refine tk_iload_n (pc := 64) d_M_plan_64 rfl ?_
            refine tk_iconst (pc := 65) (v := 5) d_M_plan_65 (by decide) ?_
            refine tk_icmp_ge (pc := 66) (tgt := 82) d_M_plan_66 (by decide) (fun he => ?_) (fun he => ?_)
            · exact absurd ((nI_leI (a := 5) (b := k) (by omega) (by omega)).mp he) (by omega)
            refine tk_aload_n (pc := 69) d_M_plan_69 rfl ?_
            refine tk_get (pc := 70) d_M_plan_70 f_M_49 rfl rfl ?_
            refine tk_iload_n (pc := 73) d_M_plan_73 rfl ?_
            refine tk_iconst (pc := 74) (v := -1) d_M_plan_74 (by decide) ?_
            refine tk_iast (pc := 75) k d_M_plan_75 rfl rfl (by omega) (by decide) ?_
            refine tk_jinc3 (pc := 76) d_M_plan_76 rfl (by decide) ?_
            refine tk_goto (pc := 79) (tgt := 64) d_M_plan_79 (by decide) ?_
            refine tk_eq rfl (by rw [inc1]) rfl ?_ (ih (k + 1) (by omega))
            rw [← fil_s, Nat.zero_add]; rfl
        refine tk_eq rfl rfl rfl ?_ (key 5 0 rfl)
        rw [fil_0, ← hx0]; rfl
      · exact absurd rfl hd
    · exact absurd hc (by decide)
  · exact absurd hb (by decide)
end REF8
