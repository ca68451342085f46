/-! ===== the reference: lookAtAll, clash ===== -/
section REF9
variable {g : sG} {h : sH} {p : sP} {c : sC} {th gn : Int32} {mk mc ms ml ma mb : Ar} {hn : Int32} {le gr mo hl hu pc pl : Ar} {aq sp st : Int32} {nw br : Ar} {o : Nat → Int64} {n : Nat} {D : Dt} {v : Nat → Nat}
abbrev lW (g : sG) (h : sH) (p : sP) (c : sC) (D : Dt) (th : Int32) (pc pl : Ar) (aq sp st : Int32) (o : Nat → Int64) (br nw : Ar) : tk_W := (wd g h p c (md th (nI D.G) (nN D.K) (nN D.C) (nN D.S) (nN D.L) (nN D.A) (nN D.B) (nI D.H) (nN D.LE) (nN D.GR) (nN D.MO) (nN D.HL) (nN D.HU) pc pl aq sp st nw br o))
abbrev lT (g : sG) (h : sH) (p : sP) (c : sC) (D : Dt) (th : Int32) (pc pl : Ar) (aq sp st : Int32) (o : Nat → Int64) (Q : tk_R → tk_W → Prop) (ht : Nat) (at' : Nat) (o2 o3 : Option Value) (br nw : Ar) : Prop :=
  tk_T y_M_lookAtAll c_M_lookAtAll 4 none [] 5 0 0 (fun _ => none) 0 0 Q at' [some (.ref 29), some (.int (nI ht)), o2, o3] [] (lW g h p c D th pc pl aq sp st o br nw)
variable {pcc bdc sb0 : Ar} {ht : Nat} {Q : tk_R → tk_W → Prop}
set_option maxHeartbeats 2000000 in
theorem la_all (hD : D.ok) (hh : ht < 4) : ∀ (m k : Nat) (v : Nat → Nat) (x : sW) (br nw : Ar) (o3 : Option Value), k + m = D.G → SC D ht k v x br nw →
    (∀ br' nw', SC D ht k v (wkF D.G D.R (pbf (gD D) (hHt D pcc bdc) ht sb0 D.G) m k x) br' nw' → lT g h p c D th pc pl aq sp st o Q ht 66 (some (.int 1)) (some (.int (nI k - 1))) br' nw') →
    lT g h p c D th pc pl aq sp st o Q ht 44 (some (.int 1)) o3 br nw := by
  have hG := hD.G
  intro m
  induction m with
  | zero =>
    intro k v x br nw o3 hk hS K
    obtain rfl : k = D.G := by omega
    have hlt := vn_lt (vio D ht v) 11
    refine tk_iload_n (pc := 44) d_M_lookAtAll_44 rfl ?_
    refine tk_if_eq (pc := 45) (tgt := 124) d_M_lookAtAll_45 (by decide) (fun hb => ?_) (fun hb => ?_)
    · exact absurd hb (by decide)
    refine tk_aload_n (pc := 48) d_M_lookAtAll_48 rfl ?_
    refine tk_get (pc := 49) d_M_lookAtAll_49 f_M_52 rfl rfl ?_
    refine tk_aload_n (pc := 52) d_M_lookAtAll_52 rfl ?_
    refine tk_iload_n (pc := 53) d_M_lookAtAll_53 rfl ?_
    refine tk_callVr (pc := 54) d_M_lookAtAll_54 l_M_115 k_M_broken rfl rfl rfl (m_Mbroken (v := v) hD hh (fun j hj => (hS.1 j hj).2) (fun j hj => (hS.1 j hj).1)) rfl (by omega) (Nat.le_of_ble_eq_true rfl) (Nat.le_of_ble_eq_true rfl) (Nat.le_of_ble_eq_true rfl) rfl rfl ?_
    rw [rbk_vn]
    refine tk_iconst (pc := 57) (v := 1) d_M_lookAtAll_57 (by decide) ?_
    refine tk_zast (pc := 58) (vn (vio D ht v) 11) rfl d_M_lookAtAll_58 rfl rfl (by omega) (by decide) ?_
    refine tk_aload_n (pc := 59) d_M_lookAtAll_59 rfl ?_
    refine tk_get (pc := 60) d_M_lookAtAll_60 f_M_60 rfl rfl ?_
    refine tk_iconst (pc := 63) (v := 1) d_M_lookAtAll_63 (by decide) ?_
    refine tk_isub (pc := 64) d_M_lookAtAll_64 ?_
    refine tk_istore3 (pc := 65) d_M_lookAtAll_65 rfl (by decide) ?_
    exact K _ _ (sc_leaf hD hS)
  | succ m IH =>
    intro k v x br nw o3 hk hS K
    have hR := hD.R k
    generalize hsb : pbf (gD D) (hHt D pcc bdc) ht sb0 D.G = sb at IH K
    have key : ∀ (r n : Nat) (z : sW) (br nw : Ar) (o3 : Option Value), n + r = D.R k → LC D ht k v n z br nw →
        (∀ br' nw', SC D ht k v (wkL (wkF D.G D.R sb m (k + 1)) sb k (r + 1) n z) br' nw' → lT g h p c D th pc pl aq sp st o Q ht 66 (some (.int 1)) (some (.int (nI k - 1))) br' nw') →
        lT g h p c D th pc pl aq sp st o Q ht 44 (some (.int 1)) o3 br nw := by
      intro r
      induction r with
      | zero =>
        intro n z br nw o3 hn hL K2
        have fin : ∀ (y : sW) (br' nw' : Ar), SC D ht (k + 1) (uN v k n) y br' nw' → wkL (wkF D.G D.R sb m (k + 1)) sb k (0 + 1) n z = y → lT g h p c D th pc pl aq sp st o Q ht 66 (some (.int 1)) (some (.int (nI k))) br' nw' := by
          intro y br' nw' h1 h2
          have e := (h1.1 k (by omega)).2
          rw [uN_eq] at e
          refine tk_iload_n (pc := 66) d_M_lookAtAll_66 rfl ?_
          refine tk_if_lt (pc := 67) (tgt := 97) d_M_lookAtAll_67 (by decide) (fun hb => ?_) (fun hb => ?_)
          · exact absurd hb (nI_pos (by omega))
          refine tk_aload_n (pc := 70) d_M_lookAtAll_70 rfl ?_
          refine tk_get (pc := 71) d_M_lookAtAll_71 f_M_49 rfl rfl ?_
          refine tk_iload_n (pc := 74) d_M_lookAtAll_74 rfl ?_
          refine tk_iald (pc := 75) k d_M_lookAtAll_75 rfl rfl (by omega) (by decide) ?_
          refine tk_aload_n (pc := 76) d_M_lookAtAll_76 rfl ?_
          refine tk_iload_n (pc := 77) d_M_lookAtAll_77 rfl ?_
          refine tk_callVr (pc := 78) d_M_lookAtAll_78 l_M_111 k_M_top rfl rfl rfl (m_topD hD (k := k) (by omega)) rfl (by omega) (Nat.le_of_ble_eq_true rfl) (Nat.le_of_ble_eq_true rfl) (Nat.le_of_ble_eq_true rfl) rfl rfl ?_
          refine tk_icmp_ne (pc := 81) (tgt := 97) d_M_lookAtAll_81 (by decide) (fun hc => ?_) (fun hc => ?_)
          · exact absurd (by rw [e, show n = D.R k by omega]) hc
          refine tk_aload_n (pc := 84) d_M_lookAtAll_84 rfl ?_
          refine tk_get (pc := 85) d_M_lookAtAll_85 f_M_49 rfl rfl ?_
          refine tk_iload_n (pc := 88) d_M_lookAtAll_88 rfl ?_
          refine tk_iconst (pc := 89) (v := 0) d_M_lookAtAll_89 (by decide) ?_
          refine tk_iast (pc := 90) k d_M_lookAtAll_90 rfl rfl (by omega) (by decide) ?_
          refine tk_jinc3 (pc := 91) d_M_lookAtAll_91 rfl (by decide) ?_
          rw [nm1i]
          refine tk_goto (pc := 94) (tgt := 66) d_M_lookAtAll_94 (by decide) ?_
          exact K2 _ _ (by rw [h2]; exact sc_exit h1)
        by_cases h0 : z.2.2 = 0
        · refine IH (k + 1) (uN v k n) (if n = 0 then z.1 else adb z.1 sb k 12, z.2) br nw o3 (by omega) (by rw [← hsb]; exact lc_try (by omega) (by omega) hL h0) (fun br' nw' h1 => ?_)
          rw [nI_pred]
          refine fin _ br' nw' h1 ?_
          show (if z.2.2 = 0 then _ else _) = _
          rw [if_pos h0]; rfl
        · refine IH (k + 1) (uN v k n) z br nw o3 (by omega) (lc_try1 (by omega) hL h0) (fun br' nw' h1 => ?_)
          rw [nI_pred]
          exact fin z br' nw' (sc_stop h1 (wkF_ah m (k + 1) h0) h0 hL.2.2.2.1) (wkL_ah h0 _ _)
      | succ r ih =>
        intro n z br nw o3 hn hL K2
        have fin : ∀ (y : sW) (br' nw' : Ar), SC D ht (k + 1) (uN v k n) y br' nw' → wkL (wkF D.G D.R sb m (k + 1)) sb k (r + 1 + 1) n z = wkL (wkF D.G D.R sb m (k + 1)) sb k (r + 1) (n + 1) y → lT g h p c D th pc pl aq sp st o Q ht 66 (some (.int 1)) (some (.int (nI k))) br' nw' := by
          intro y br' nw' h1 h2
          have e := (h1.1 k (by omega)).2
          rw [uN_eq] at e
          refine tk_iload_n (pc := 66) d_M_lookAtAll_66 rfl ?_
          refine tk_if_lt (pc := 67) (tgt := 97) d_M_lookAtAll_67 (by decide) (fun hb => ?_) (fun hb => ?_)
          · exact absurd hb (nI_pos (by omega))
          refine tk_aload_n (pc := 70) d_M_lookAtAll_70 rfl ?_
          refine tk_get (pc := 71) d_M_lookAtAll_71 f_M_49 rfl rfl ?_
          refine tk_iload_n (pc := 74) d_M_lookAtAll_74 rfl ?_
          refine tk_iald (pc := 75) k d_M_lookAtAll_75 rfl rfl (by omega) (by decide) ?_
          refine tk_aload_n (pc := 76) d_M_lookAtAll_76 rfl ?_
          refine tk_iload_n (pc := 77) d_M_lookAtAll_77 rfl ?_
          refine tk_callVr (pc := 78) d_M_lookAtAll_78 l_M_111 k_M_top rfl rfl rfl (m_topD hD (k := k) (by omega)) rfl (by omega) (Nat.le_of_ble_eq_true rfl) (Nat.le_of_ble_eq_true rfl) (Nat.le_of_ble_eq_true rfl) rfl rfl ?_
          refine tk_icmp_ne (pc := 81) (tgt := 97) d_M_lookAtAll_81 (by decide) (fun hc => ?_) (fun hc => ?_)
          · refine tk_iload_n (pc := 97) d_M_lookAtAll_97 rfl ?_
            refine tk_if_lt (pc := 98) (tgt := 105) d_M_lookAtAll_98 (by decide) (fun hd => ?_) (fun hd => ?_)
            · exact absurd hd (nI_pos (by omega))
            refine tk_iconst (pc := 101) (v := 1) d_M_lookAtAll_101 (by decide) ?_
            refine tk_goto (pc := 102) (tgt := 106) d_M_lookAtAll_102 (by decide) ?_
            refine tk_istore2 (pc := 106) d_M_lookAtAll_106 rfl (by decide) ?_
            refine tk_iload_n (pc := 107) d_M_lookAtAll_107 rfl ?_
            refine tk_if_eq (pc := 108) (tgt := 121) d_M_lookAtAll_108 (by decide) (fun he => ?_) (fun he => ?_)
            · exact absurd he (by decide)
            refine tk_aload_n (pc := 111) d_M_lookAtAll_111 rfl ?_
            refine tk_get (pc := 112) d_M_lookAtAll_112 f_M_49 rfl rfl ?_
            refine tk_iload_n (pc := 115) d_M_lookAtAll_115 rfl ?_
            refine tk_dup2 (pc := 116) d_M_lookAtAll_116 rfl rfl ?_
            refine tk_iald (pc := 117) k d_M_lookAtAll_117 rfl rfl (by omega) (by decide) ?_
            refine tk_iconst (pc := 118) (v := 1) d_M_lookAtAll_118 (by decide) ?_
            refine tk_iadd (pc := 119) d_M_lookAtAll_119 ?_
            refine tk_iast (pc := 120) k d_M_lookAtAll_120 rfl rfl (by omega) (by decide) ?_
            rw [e, nI_1]
            refine tk_goto (pc := 121) (tgt := 44) d_M_lookAtAll_121 (by decide) ?_
            exact ih (n + 1) y br' _ _ (by omega) (sc_next h1) (fun br2 nw2 h3 => K2 br2 nw2 (by rw [h2]; exact h3))
          · exact absurd (show nI n = nI (D.R k) from by rw [← e]; exact hc) (fun q => by have := (nI_eq (by omega) (by omega)).mp q; omega)
        by_cases h0 : z.2.2 = 0
        · refine IH (k + 1) (uN v k n) (if n = 0 then z.1 else adb z.1 sb k 12, z.2) br nw o3 (by omega) (by rw [← hsb]; exact lc_try (by omega) (by omega) hL h0) (fun br' nw' h1 => ?_)
          rw [nI_pred]
          refine fin _ br' nw' h1 ?_
          show (if z.2.2 = 0 then _ else _) = _
          rw [if_pos h0]
        · refine IH (k + 1) (uN v k n) z br nw o3 (by omega) (lc_try1 (by omega) hL h0) (fun br' nw' h1 => ?_)
          rw [nI_pred]
          refine fin z br' nw' (sc_stop h1 (wkF_ah m (k + 1) h0) h0 hL.2.2.2.1) ?_
          rw [wkL_ah h0, wkL_ah h0]
    exact key (D.R k) 0 (stl x.1 k 12, x.2) br nw o3 (by omega) (sc_enter (by omega) hS) K
set_option maxHeartbeats 1000000 in
theorem m_lookAtAll {gt : Ar × Ar × Ar × Ar × Ar × Ar} {f : Ar} {s : Nat → Int64} (hD : D.ok) (hh : ht < 4) (hf : Zr f) (hgt : gD D = (nI D.G, gt)) : tk_M y_M_lookAtAll w_M_lookAtAll 5 0 0 [.ref 29, .int (nI ht)] (lW g h p c D th pc pl aq sp st o br nw)
    (fun r w => ∃ br' nw', r = .inl none ∧ w = lW g h p c D th pc pl aq sp st o br' nw' ∧ SC D ht 0 (fun _ => 0) (fndW D.G gt (hHt D pcc bdc) D.R ht sb0 f s) br' nw') := by
  have hG := hD.G
  refine tk_M.of (lv := [some (.ref 29), some (.int (nI ht)), none, none]) (by decide) (Nat.le_of_ble_eq_true rfl) rfl ?_
  generalize hQ : (fun (r : tk_R) (w : tk_W) => ∃ br' nw', r = .inl none ∧ w = lW g h p c D th pc pl aq sp st o br' nw' ∧ SC D ht 0 (fun _ => 0) (fndW D.G gt (hHt D pcc bdc) D.R ht sb0 f s) br' nw') = Q
  have hX : fndW D.G gt (hHt D pcc bdc) D.R ht sb0 f s = wkF D.G D.R (pbf (gD D) (hHt D pcc bdc) ht sb0 D.G) D.G 0 (ldR f (hHt D pcc bdc) ht, zfl s 32, 0) := by
    rw [hgt]; rfl
  have top : lT g h p c D th pc pl aq sp st o Q ht 42 (some (.int (nI 5))) none (fil br 0 2048 0) (fil nw 0 5 0) := by
    refine tk_iconst (pc := 42) (v := 1) d_M_lookAtAll_42 (by decide) ?_
    refine tk_istore2 (pc := 43) d_M_lookAtAll_43 rfl (by decide) ?_
    refine la_all (pcc := pcc) (bdc := bdc) (sb0 := sb0) hD hh D.G 0 (fun _ => 0) (ldR f (hHt D pcc bdc) ht, zfl s 32, 0) _ _ none (by omega) ⟨fun j hj => absurd hj (by omega), fun j _ hj => ?_, fun c hc c0 c1 c2 => ?_, Or.inl ⟨rfl, fun i hi => ?_, fun n hn => ?_, ?_⟩⟩ (fun br' nw' h1 => ?_)
    · simp only [fil]; rw [if_pos (by omega)]
    · show ldR f (hHt D pcc bdc) ht c = 0
      simp only [ldR]
      rw [pk_un c2, pk_un c1, pk_un c0]; exact hf c hc c0 c1 c2
    · obtain rfl : i = 0 := by omega
      exact row_ld hf
    · refine ⟨fun _ => sbt_zfl s n hn, fun _ => ?_⟩
      simp only [fil]; rw [if_pos (by omega)]
    · simp only [fil]; rw [if_pos (by omega)]
    · refine tk_iload_n (pc := 66) d_M_lookAtAll_66 rfl ?_
      refine tk_if_lt (pc := 67) (tgt := 97) d_M_lookAtAll_67 (by decide) (fun hb => ?_) (fun hb => ?_)
      · refine tk_iload_n (pc := 97) d_M_lookAtAll_97 rfl ?_
        refine tk_if_lt (pc := 98) (tgt := 105) d_M_lookAtAll_98 (by decide) (fun hc => ?_) (fun hc => ?_)
        · refine tk_iconst (pc := 105) (v := 0) d_M_lookAtAll_105 (by decide) ?_
          refine tk_istore2 (pc := 106) d_M_lookAtAll_106 rfl (by decide) ?_
          refine tk_iload_n (pc := 107) d_M_lookAtAll_107 rfl ?_
          refine tk_if_eq (pc := 108) (tgt := 121) d_M_lookAtAll_108 (by decide) (fun hd => ?_) (fun hd => ?_)
          · refine tk_goto (pc := 121) (tgt := 44) d_M_lookAtAll_121 (by decide) ?_
            refine tk_iload_n (pc := 44) d_M_lookAtAll_44 rfl ?_
            refine tk_if_eq (pc := 45) (tgt := 124) d_M_lookAtAll_45 (by decide) (fun he => ?_) (fun he => ?_)
            · exact tk_return (pc := 124) d_M_lookAtAll_124 rfl (Nat.le_of_ble_eq_true rfl) (Nat.le_of_ble_eq_true rfl) (by rw [← hQ]; exact ⟨br', nw', rfl, rfl, by rw [hX]; exact h1⟩)
            · exact absurd rfl he
          · exact absurd rfl hd
        · exact absurd (by decide) hc
      · exact absurd (by decide) hb
  have l2 : ∀ (m k : Nat), k + m = 5 → lT g h p c D th pc pl aq sp st o Q ht 24 (some (.int (nI k))) none (fil br 0 2048 0) (fil nw 0 k 0) := by
    intro m
    induction m with
    | zero =>
      intro k hk
      obtain rfl : k = 5 := by omega
      refine tk_iload_n (pc := 24) d_M_lookAtAll_24 rfl ?_
      refine tk_iconst (pc := 25) (v := 5) d_M_lookAtAll_25 (by decide) ?_
      refine tk_icmp_ge (pc := 26) (tgt := 42) d_M_lookAtAll_26 (by decide) (fun hb => ?_) (fun hb => ?_)
      · exact top
      · exact absurd (show nI 5 ≤ nI 5 from by decide) hb
    | succ m ih =>
      intro k hk
      refine tk_iload_n (pc := 24) d_M_lookAtAll_24 rfl ?_
      refine tk_iconst (pc := 25) (v := 5) d_M_lookAtAll_25 (by decide) ?_
      refine tk_icmp_ge (pc := 26) (tgt := 42) d_M_lookAtAll_26 (by decide) (fun hb => ?_) (fun hb => ?_)
      · exact absurd ((nI_leI (a := 5) (b := k) (by omega) (by omega)).mp hb) (by omega)
      refine tk_aload_n (pc := 29) d_M_lookAtAll_29 rfl ?_
      refine tk_get (pc := 30) d_M_lookAtAll_30 f_M_49 rfl rfl ?_
      refine tk_iload_n (pc := 33) d_M_lookAtAll_33 rfl ?_
      refine tk_iconst (pc := 34) (v := 0) d_M_lookAtAll_34 (by decide) ?_
      refine tk_iast (pc := 35) k d_M_lookAtAll_35 rfl rfl (by omega) (by decide) ?_
      refine tk_jinc2 (pc := 36) d_M_lookAtAll_36 rfl (by decide) ?_
      refine tk_goto (pc := 39) (tgt := 24) d_M_lookAtAll_39 (by decide) ?_
      refine tk_eq rfl (by rw [inc1]) rfl ?_ (ih (k + 1) (by omega))
      rw [← fil_s (a := nw), Nat.zero_add]; rfl
  have l1 : ∀ (m k : Nat), k + m = 2048 → lT g h p c D th pc pl aq sp st o Q ht 2 (some (.int (nI k))) none (fil br 0 k 0) nw := by
    intro m
    induction m with
    | zero =>
      intro k hk
      obtain rfl : k = 2048 := by omega
      refine tk_iload_n (pc := 2) d_M_lookAtAll_2 rfl ?_
      refine tk_sipush (pc := 3) (v := 2048) d_M_lookAtAll_3 (by decide) ?_
      refine tk_icmp_ge (pc := 6) (tgt := 22) d_M_lookAtAll_6 (by decide) (fun hb => ?_) (fun hb => ?_)
      · refine tk_iconst (pc := 22) (v := 0) d_M_lookAtAll_22 (by decide) ?_
        refine tk_istore2 (pc := 23) d_M_lookAtAll_23 rfl (by decide) ?_
        exact tk_eq rfl rfl rfl (by rw [fil_0]) (l2 5 0 rfl)
      · exact absurd (show nI 2048 ≤ nI 2048 from by decide) hb
    | succ m ih =>
      intro k hk
      refine tk_iload_n (pc := 2) d_M_lookAtAll_2 rfl ?_
      refine tk_sipush (pc := 3) (v := 2048) d_M_lookAtAll_3 (by decide) ?_
      refine tk_icmp_ge (pc := 6) (tgt := 22) d_M_lookAtAll_6 (by decide) (fun hb => ?_) (fun hb => ?_)
      · exact absurd ((nI_leI (a := 2048) (b := k) (by omega) (by omega)).mp hb) (by omega)
      refine tk_aload_n (pc := 9) d_M_lookAtAll_9 rfl ?_
      refine tk_get (pc := 10) d_M_lookAtAll_10 f_M_52 rfl rfl ?_
      refine tk_iload_n (pc := 13) d_M_lookAtAll_13 rfl ?_
      refine tk_iconst (pc := 14) (v := 0) d_M_lookAtAll_14 (by decide) ?_
      refine tk_zast (pc := 15) k rfl d_M_lookAtAll_15 rfl rfl (by omega) (by decide) ?_
      refine tk_jinc2 (pc := 16) d_M_lookAtAll_16 rfl (by decide) ?_
      refine tk_goto (pc := 19) (tgt := 2) d_M_lookAtAll_19 (by decide) ?_
      refine tk_eq rfl (by rw [inc1]) rfl ?_ (ih (k + 1) (by omega))
      rw [← fil_s (a := br), Nat.zero_add]; rfl
  refine tk_iconst (pc := 0) (v := 0) d_M_lookAtAll_0 (by decide) ?_
  refine tk_istore2 (pc := 1) d_M_lookAtAll_1 rfl (by decide) ?_
  exact tk_eq rfl rfl rfl (by rw [fil_0]) (l1 2048 0 (by omega))
theorem r_clash_1 {i : Int32} (hn' : n < 5) (hi : i < 0 ∨ ¬ i < nI n) : tk_M y_M_clash w_M_clash 10 0 0 [.ref 29, .int i] (wd g h p c (md th gn mk mc ms ml ma mb (nI n) le gr mo hl hu pc pl aq sp st nw br o)) (tk_det (.inl (some (.int 0))) (wd g h p c (md 1 gn mk mc ms ml ma mb (nI n) le gr mo hl hu pc pl aq sp st nw br o))) := by
  refine tk_M.of (lv := [some (.ref 29), some (.int i), none, none]) (by decide) (Nat.le_of_ble_eq_true rfl) rfl ?_
  refine tk_aload_n (pc := 0) d_M_clash_0 rfl ?_
  refine tk_aload_n (pc := 1) d_M_clash_1 rfl ?_
  refine tk_iload_n (pc := 2) d_M_clash_2 rfl ?_
  refine tk_callVr (pc := 3) d_M_clash_3 l_M_92 k_M_isHeat rfl rfl rfl (m_isHeat_n hi (by omega)) rfl (by omega) (Nat.le_of_ble_eq_true rfl) (Nat.le_of_ble_eq_true rfl) (Nat.le_of_ble_eq_true rfl) rfl rfl ?_
  refine tk_if_ne (pc := 6) (tgt := 13) d_M_clash_6 (by decide) (fun hb => ?_) (fun hb => ?_)
  · exact absurd rfl hb
  refine tk_iconst (pc := 9) (v := 1) d_M_clash_9 (by decide) ?_
  refine tk_goto (pc := 10) (tgt := 14) d_M_clash_10 (by decide) ?_
  refine tk_iconst (pc := 14) (v := 0) d_M_clash_14 (by decide) ?_
  refine tk_iconst (pc := 15) (v := 0) d_M_clash_15 (by decide) ?_
  refine tk_callVr (pc := 16) d_M_clash_16 l_M_76 k_M_throwing rfl rfl rfl (m_t1 (y := 0) (z := 0)) rfl (by omega) (Nat.le_of_ble_eq_true rfl) (Nat.le_of_ble_eq_true rfl) (Nat.le_of_ble_eq_true rfl) rfl rfl ?_
  refine tk_if_eq (pc := 19) (tgt := 24) d_M_clash_19 (by decide) (fun hc => ?_) (fun hc => ?_)
  · exact absurd hc (by decide)
  refine tk_iconst (pc := 22) (v := 0) d_M_clash_22 (by decide) ?_
  exact tk_ireturn (pc := 23) d_M_clash_23 rfl rfl (Nat.le_of_ble_eq_true rfl) (Nat.le_of_ble_eq_true rfl) ⟨rfl, rfl⟩
set_option maxHeartbeats 1000000 in
theorem r_clash_0 {i : Nat} {gt : Ar × Ar × Ar × Ar × Ar × Ar} {f : Ar} {s : Nat → Int64} {X : sW} (hD : D.ok) (hi : i < D.H) (hf : Zr f) (hgt : gD D = (nI D.G, gt)) (hX : fndW D.G gt (hHt D pcc bdc) D.R i sb0 f s = X) : tk_M y_M_clash w_M_clash 10 0 0 [.ref 29, .int (nI i)] (wd g h p c (md th (nI D.G) (nN D.K) (nN D.C) (nN D.S) (nN D.L) (nN D.A) (nN D.B) (nI D.H) (nN D.LE) (nN D.GR) (nN D.MO) (nN D.HL) (nN D.HU) pc pl aq sp st nw br o))
    (fun r w => ∃ br' nw', r = .inl (some (.int (if X.2.2 = 0 then lft X.2.1 11 else 0))) ∧ w = lW g h p c D 0 pc pl aq sp st o br' nw' ∧ Zr X.1) := by
  have hH := hD.H
  refine tk_M.of (lv := [some (.ref 29), some (.int (nI i)), none, none]) (by decide) (Nat.le_of_ble_eq_true rfl) rfl ?_
  generalize hQ : (fun (r : tk_R) (w : tk_W) => ∃ br' nw', r = .inl (some (.int (if X.2.2 = 0 then lft X.2.1 11 else 0))) ∧ w = lW g h p c D 0 pc pl aq sp st o br' nw' ∧ Zr X.1) = Q
  refine tk_aload_n (pc := 0) d_M_clash_0 rfl ?_
  refine tk_aload_n (pc := 1) d_M_clash_1 rfl ?_
  refine tk_iload_n (pc := 2) d_M_clash_2 rfl ?_
  refine tk_callVr (pc := 3) d_M_clash_3 l_M_92 k_M_isHeat rfl rfl rfl (m_isHeat_y hi (by omega)) rfl (by omega) (Nat.le_of_ble_eq_true rfl) (Nat.le_of_ble_eq_true rfl) (Nat.le_of_ble_eq_true rfl) rfl rfl ?_
  refine tk_if_ne (pc := 6) (tgt := 13) d_M_clash_6 (by decide) (fun hb => ?_) (fun hb => ?_)
  · refine tk_iconst (pc := 13) (v := 0) d_M_clash_13 (by decide) ?_
    refine tk_iconst (pc := 14) (v := 0) d_M_clash_14 (by decide) ?_
    refine tk_iconst (pc := 15) (v := 0) d_M_clash_15 (by decide) ?_
    refine tk_callVr (pc := 16) d_M_clash_16 l_M_76 k_M_throwing rfl rfl rfl (m_t0) rfl (by omega) (Nat.le_of_ble_eq_true rfl) (Nat.le_of_ble_eq_true rfl) (Nat.le_of_ble_eq_true rfl) rfl rfl ?_
    refine tk_if_eq (pc := 19) (tgt := 24) d_M_clash_19 (by decide) (fun hc => ?_) (fun hc => ?_)
    · refine tk_aload_n (pc := 24) d_M_clash_24 rfl ?_
      refine tk_iload_n (pc := 25) d_M_clash_25 rfl ?_
      refine tk_callV (pc := 26) d_M_clash_26 l_M_129 k_M_lookAtAll rfl rfl rfl (m_lookAtAll (pcc := pcc) (bdc := bdc) (sb0 := sb0) (f := f) (s := s) (gt := gt) hD (by omega) hf hgt) (by omega) (Nat.le_of_ble_eq_true rfl) (Nat.le_of_ble_eq_true rfl) (Nat.le_of_ble_eq_true rfl) rfl rfl ?_ ?_ ?_
      · rintro r x ⟨br', nw', -, rfl, -⟩
        exact tk_kps_same rfl
      · rintro r x ⟨br', nw', h1, rfl, h2⟩
        cases h1
        rw [hX] at h2
        have fin : ∀ q : Int32, q = (if X.2.2 = 0 then lft X.2.1 11 else 0) → Q (.inl (some (.int q))) (lW g h p c D 0 pc pl aq sp st o br' nw') := by
          intro q hq
          rw [← hQ]
          exact ⟨br', nw', by rw [hq], rfl, h2.2.2.1⟩
        refine tk_aload_n (pc := 29) d_M_clash_29 rfl ?_
        refine tk_iconst (pc := 30) (v := 0) d_M_clash_30 (by decide) ?_
        refine tk_callVr (pc := 31) d_M_clash_31 l_M_132 k_M_isSome rfl rfl rfl (m_isSome (br := br') (out := 0)) rfl (by omega) (Nat.le_of_ble_eq_true rfl) (Nat.le_of_ble_eq_true rfl) (Nat.le_of_ble_eq_true rfl) rfl rfl ?_
        refine tk_if_eq (pc := 34) (tgt := 39) d_M_clash_34 (by decide) (fun hd => ?_) (fun hd => ?_)
        · have hbr : br' 0 = 0 := Decidable.byContradiction (fun z => ((ism0 br').mpr z) hd)
          obtain ⟨a1, -, a3, -⟩ := h2.2.2.2.resolve_right (fun z => z.2 hbr)
          refine tk_iconst (pc := 39) (v := 0) d_M_clash_39 (by decide) ?_
          refine tk_istore2 (pc := 40) d_M_clash_40 rfl (by decide) ?_
          refine tk_iconst (pc := 41) (v := 0) d_M_clash_41 (by decide) ?_
          refine tk_istore3 (pc := 42) d_M_clash_42 rfl (by decide) ?_
          have lp : ∀ (m k : Nat), k + m = 11 → tk_T y_M_clash c_M_clash 4 (some .int) [] 10 0 0 (fun _ => none) 0 0 Q 43 [some (.ref 29), some (.int (nI i)), some (.int (rout br' k)), some (.int (nI k))] [] (lW g h p c D 0 pc pl aq sp st o br' nw') := by
            intro m
            induction m with
            | zero =>
              intro k hk
              obtain rfl : k = 11 := by omega
              refine tk_iload_n (pc := 43) d_M_clash_43 rfl ?_
              refine tk_bipush (pc := 44) (v := 11) d_M_clash_44 (by decide) ?_
              refine tk_icmp_ge (pc := 46) (tgt := 77) d_M_clash_46 (by decide) (fun he => ?_) (fun he => ?_)
              · refine tk_sipush (pc := 77) (v := 2047) d_M_clash_77 (by decide) ?_
                refine tk_iload_n (pc := 80) d_M_clash_80 rfl ?_
                refine tk_iconst (pc := 81) (v := -1) d_M_clash_81 (by decide) ?_
                refine tk_ixor (pc := 82) d_M_clash_82 ?_
                refine tk_iand (pc := 83) d_M_clash_83 ?_
                exact tk_ireturn (pc := 84) d_M_clash_84 rfl rfl (Nat.le_of_ble_eq_true rfl) (Nat.le_of_ble_eq_true rfl) (fin _ (by rw [if_pos a1, lft_rout a3]))
              · exact absurd (show nI 11 ≤ nI 11 from by decide) he
            | succ m ih =>
              intro k hk
              refine tk_iload_n (pc := 43) d_M_clash_43 rfl ?_
              refine tk_bipush (pc := 44) (v := 11) d_M_clash_44 (by decide) ?_
              refine tk_icmp_ge (pc := 46) (tgt := 77) d_M_clash_46 (by decide) (fun he => ?_) (fun he => ?_)
              · exact absurd ((nI_leI (a := 11) (b := k) (by omega) (by omega)).mp he) (by omega)
              refine tk_iload_n (pc := 49) d_M_clash_49 rfl ?_
              refine tk_aload_n (pc := 50) d_M_clash_50 rfl ?_
              refine tk_iload_n (pc := 51) d_M_clash_51 rfl ?_
              refine tk_iconst (pc := 52) (v := 1) d_M_clash_52 (by decide) ?_
              refine tk_iload_n (pc := 53) d_M_clash_53 rfl ?_
              refine tk_ishl (pc := 54) d_M_clash_54 ?_
              refine tk_ior (pc := 55) d_M_clash_55 ?_
              refine tk_callVr (pc := 56) d_M_clash_56 l_M_132 k_M_isSome rfl rfl rfl (m_isSome (br := br') (out := rout br' k ||| (1 : Int32) <<< (nI k &&& 31))) rfl (by omega) (Nat.le_of_ble_eq_true rfl) (Nat.le_of_ble_eq_true rfl) (Nat.le_of_ble_eq_true rfl) rfl rfl ?_
              have nx : ∀ q : Int32, rout br' k ||| q = rout br' (k + 1) → tk_T y_M_clash c_M_clash 4 (some .int) [] 10 0 0 (fun _ => none) 0 0 Q 69 [some (.ref 29), some (.int (nI i)), some (.int (rout br' k)), some (.int (nI k))] [.int q, .int (rout br' k)] (lW g h p c D 0 pc pl aq sp st o br' nw') := by
                intro q hq
                refine tk_ior (pc := 69) d_M_clash_69 ?_
                refine tk_istore2 (pc := 70) d_M_clash_70 rfl (by decide) ?_
                refine tk_jinc3 (pc := 71) d_M_clash_71 rfl (by decide) ?_
                refine tk_goto (pc := 74) (tgt := 43) d_M_clash_74 (by decide) ?_
                exact tk_eq rfl (by rw [inc1, hq]) rfl rfl (ih (k + 1) (by omega))
              refine tk_if_eq (pc := 59) (tgt := 66) d_M_clash_59 (by decide) (fun hf => ?_) (fun hf => ?_)
              · refine tk_iconst (pc := 66) (v := 1) d_M_clash_66 (by decide) ?_
                refine tk_iload_n (pc := 67) d_M_clash_67 rfl ?_
                refine tk_ishl (pc := 68) d_M_clash_68 ?_
                exact nx _ (by simp only [rout]; rw [if_pos hf])
              · refine tk_iconst (pc := 62) (v := 0) d_M_clash_62 (by decide) ?_
                refine tk_goto (pc := 63) (tgt := 69) d_M_clash_63 (by decide) ?_
                exact nx _ (by simp only [rout]; rw [if_neg hf])
          exact lp 11 0 rfl
        · have hbr : ¬ br' 0 = 0 := (ism0 br').mp hd
          have a1 := (h2.2.2.2.resolve_left (fun z => hbr z.2.2.2)).1
          refine tk_iconst (pc := 37) (v := 0) d_M_clash_37 (by decide) ?_
          exact tk_ireturn (pc := 38) d_M_clash_38 rfl rfl (Nat.le_of_ble_eq_true rfl) (Nat.le_of_ble_eq_true rfl) (fin _ (by rw [if_neg a1]))
      · rintro C x ⟨br', nw', h1, -⟩
        cases h1
    · exact absurd rfl hc
  · exact absurd hb (by decide)
end REF9
