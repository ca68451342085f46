/-! ===== the reference: worst, the constructor ===== -/
theorem pkl_s' (bd gk : Ar) (ht i : Nat) : pkl bd gk ht i + (bd (5 * ht + i)).toInt64 * (gk i).toInt64 = pkl bd gk ht (i + 1) := by
  rw [Nat.mul_comm 5 ht]; rfl
theorem psh_s' (bd gk sh : Ar) (ht e i : Nat) : psh bd gk sh ht e i + (bd (5 * ht + i)).toInt64 * (gk i).toInt64 * (sh (4 * i + e)).toInt64 = psh bd gk sh ht e (i + 1) := by
  rw [Nat.mul_comm 5 ht, Nat.mul_comm 4 i]; rfl
section REF6
variable {g : sG} {h : sH} {p : sP} {c : sC} {th gn : Int32} {mk mc ms ml ma mb : Ar} {hn : Int32} {le gr mo hl hu pc pl : Ar} {aq sp st : Int32} {nw br : Ar} {o : Nat → Int64} {n : Nat} {D : Dt} {v : Nat → Nat}
theorem r_worst_1 {i e d k : Int32} (hn' : n < 5) (hi : (i < 0 ∨ ¬ i < nI n) ∨ (e < 0 ∨ 3 < e) ∨ (d < 0 ∨ 1 < d) ∨ (k < 0 ∨ 1 < k)) : tk_M y_M_worst w_M_worst 10 0 0 [.ref 29, .int i, .int e, .int d, .int k] (wd g h p c (md th gn mk mc ms ml ma mb (nI n) le gr mo hl hu pc pl aq sp st nw br o)) (tk_det (.inl (some (.long 0))) (wd g h p c (md 1 gn mk mc ms ml ma mb (nI n) le gr mo hl hu pc pl aq sp st nw br o))) := by
  refine tk_M.of (lv := [some (.ref 29), some (.int i), some (.int e), some (.int d), some (.int k), none, none, none, none, none, none, none, none]) (by decide) (Nat.le_of_ble_eq_true rfl) rfl ?_
  have tail : tk_T y_M_worst c_M_worst 13 (some .long) [] 10 0 0 (fun _ => none) 0 0 (tk_det (.inl (some (.long 0))) (wd g h p c (md 1 gn mk mc ms ml ma mb (nI n) le gr mo hl hu pc pl aq sp st nw br o))) 41 [some (.ref 29), some (.int i), some (.int e), some (.int d), some (.int k), none, none, none, none, none, none, none, none] [] (wd g h p c (md th gn mk mc ms ml ma mb (nI n) le gr mo hl hu pc pl aq sp st nw br o)) := by
    refine tk_iconst (pc := 41) (v := 1) d_M_worst_41 (by decide) ?_
    refine tk_goto (pc := 42) (tgt := 46) d_M_worst_42 (by decide) ?_
    refine tk_istore5 (pc := 46) d_M_worst_46 rfl (by decide) ?_
    refine tk_lconst (pc := 48) (v := 0) d_M_worst_48 (by decide) ?_
    refine tk_lstore6 (pc := 49) d_M_worst_49 rfl (by decide) ?_
    refine tk_lconst (pc := 51) (v := 0) d_M_worst_51 (by decide) ?_
    refine tk_lstore8 (pc := 52) d_M_worst_52 rfl (by decide) ?_
    refine tk_iconst (pc := 54) (v := 0) d_M_worst_54 (by decide) ?_
    refine tk_istore10 (pc := 55) d_M_worst_55 rfl (by decide) ?_
    refine tk_iload (pc := 57) d_M_worst_57 rfl ?_
    refine tk_if_ne (pc := 59) (tgt := 145) d_M_worst_59 (by decide) (fun hb => ?_) (fun hb => ?_)
    · refine tk_aload_n (pc := 145) d_M_worst_145 rfl ?_
      refine tk_iload (pc := 146) d_M_worst_146 rfl ?_
      refine tk_aload_n (pc := 148) d_M_worst_148 rfl ?_
      refine tk_iload_n (pc := 149) d_M_worst_149 rfl ?_
      obtain ⟨q, hq⟩ := m_hasPlan_a (g := g) (h := h) (p := p) (c := c) (th := th) (gn := gn) (mk := mk) (mc := mc) (ms := ms) (ml := ml) (ma := ma) (mb := mb) (le := le) (gr := gr) (mo := mo) (hl := hl) (hu := hu) (pc := pc) (pl := pl) (aq := aq) (sp := sp) (st := st) (nw := nw) (br := br) (o := o) (i := i) hn'
      refine tk_callVr (pc := 150) d_M_worst_150 l_M_122 k_M_hasPlan rfl rfl rfl (hq) rfl (by omega) (Nat.le_of_ble_eq_true rfl) (Nat.le_of_ble_eq_true rfl) (Nat.le_of_ble_eq_true rfl) rfl rfl ?_
      have t2 : ∀ q : Int32, tk_T y_M_worst c_M_worst 13 (some .long) [] 10 0 0 (fun _ => none) 0 0 (tk_det (.inl (some (.long 0))) (wd g h p c (md 1 gn mk mc ms ml ma mb (nI n) le gr mo hl hu pc pl aq sp st nw br o))) 161 [some (.ref 29), some (.int i), some (.int e), some (.int d), some (.int k), some (.int 1), some (.long 0), none, some (.long 0), none, some (.int 0), none, none] [.int q, .int 1, .ref 29] (wd g h p c (md th gn mk mc ms ml ma mb (nI n) le gr mo hl hu pc pl aq sp st nw br o)) := by
        intro q
        refine tk_lload (pc := 161) d_M_worst_161 rfl ?_
        refine tk_lconst (pc := 163) (v := 0) d_M_worst_163 (by decide) ?_
        refine tk_lcmp (pc := 164) d_M_worst_164 ?_
        refine tk_if_ne (pc := 165) (tgt := 172) d_M_worst_165 (by decide) (fun hc => ?_) (fun hc => ?_)
        · exact absurd (by decide) hc
        refine tk_iconst (pc := 168) (v := 1) d_M_worst_168 (by decide) ?_
        refine tk_goto (pc := 169) (tgt := 173) d_M_worst_169 (by decide) ?_
        refine tk_callVr (pc := 173) d_M_worst_173 l_M_76 k_M_throwing rfl rfl rfl (m_t1 (y := q) (z := 1)) rfl (by omega) (Nat.le_of_ble_eq_true rfl) (Nat.le_of_ble_eq_true rfl) (Nat.le_of_ble_eq_true rfl) rfl rfl ?_
        refine tk_if_eq (pc := 176) (tgt := 181) d_M_worst_176 (by decide) (fun hd => ?_) (fun hd => ?_)
        · exact absurd hd (by decide)
        refine tk_lconst (pc := 179) (v := 0) d_M_worst_179 (by decide) ?_
        exact tk_lreturn (pc := 180) d_M_worst_180 rfl (Nat.le_of_ble_eq_true rfl) (Nat.le_of_ble_eq_true rfl) ⟨rfl, rfl⟩
      refine tk_if_ne (pc := 153) (tgt := 160) d_M_worst_153 (by decide) (fun hc => ?_) (fun hc => ?_)
      · refine tk_iconst (pc := 160) (v := 0) d_M_worst_160 (by decide) ?_
        exact t2 0
      · refine tk_iconst (pc := 156) (v := 1) d_M_worst_156 (by decide) ?_
        refine tk_goto (pc := 157) (tgt := 161) d_M_worst_157 (by decide) ?_
        exact t2 1
    · exact absurd hb (by decide)
  refine tk_aload_n (pc := 0) d_M_worst_0 rfl ?_
  refine tk_iload_n (pc := 1) d_M_worst_1 rfl ?_
  by_cases h1 : i < 0 ∨ ¬ i < nI n
  · refine tk_callVr (pc := 2) d_M_worst_2 l_M_92 k_M_isHeat rfl rfl rfl (m_isHeat_n h1 (by omega)) rfl (by omega) (Nat.le_of_ble_eq_true rfl) (Nat.le_of_ble_eq_true rfl) (Nat.le_of_ble_eq_true rfl) rfl rfl ?_
    refine tk_if_eq (pc := 5) (tgt := 41) d_M_worst_5 (by decide) (fun hb => ?_) (fun hb => ?_)
    · exact tail
    · exact absurd rfl hb
  refine tk_callVr (pc := 2) d_M_worst_2 l_M_92 k_M_isHeat rfl rfl rfl (m_isHeat (n := n) (i := i) (by omega)) rfl (by omega) (Nat.le_of_ble_eq_true rfl) (Nat.le_of_ble_eq_true rfl) (Nat.le_of_ble_eq_true rfl) rfl rfl ?_
  rw [if_neg h1]
  refine tk_if_eq (pc := 5) (tgt := 41) d_M_worst_5 (by decide) (fun hb => ?_) (fun hb => ?_)
  · exact absurd hb (by decide)
  refine tk_iload_n (pc := 8) d_M_worst_8 rfl ?_
  refine tk_i2l (pc := 9) d_M_worst_9 ?_
  refine tk_lconst (pc := 10) (v := 0) d_M_worst_10 (by decide) ?_
  refine tk_ldc2 (pc := 11) d_M_worst_11 q_M_86 ?_
  by_cases h2 : e < 0 ∨ 3 < e
  · refine tk_callSr (pc := 14) d_M_worst_14 l_M_63 k_M_in (m_in_no (x := e) (lo := 0) (hi := 3) rfl rfl h2) rfl (by omega) (Nat.le_of_ble_eq_true rfl) (Nat.le_of_ble_eq_true rfl) (Nat.le_of_ble_eq_true rfl) rfl rfl ?_
    refine tk_if_eq (pc := 17) (tgt := 41) d_M_worst_17 (by decide) (fun hb => ?_) (fun hb => ?_)
    · exact tail
    · exact absurd rfl hb
  refine tk_callSr (pc := 14) d_M_worst_14 l_M_63 k_M_in (m_in_yes (x := e) (lo := 0) (hi := 3) rfl rfl h2) rfl (by omega) (Nat.le_of_ble_eq_true rfl) (Nat.le_of_ble_eq_true rfl) (Nat.le_of_ble_eq_true rfl) rfl rfl ?_
  refine tk_if_eq (pc := 17) (tgt := 41) d_M_worst_17 (by decide) (fun hb => ?_) (fun hb => ?_)
  · exact absurd hb (by decide)
  refine tk_iload_n (pc := 20) d_M_worst_20 rfl ?_
  refine tk_i2l (pc := 21) d_M_worst_21 ?_
  refine tk_lconst (pc := 22) (v := 0) d_M_worst_22 (by decide) ?_
  refine tk_lconst (pc := 23) (v := 1) d_M_worst_23 (by decide) ?_
  by_cases h3 : d < 0 ∨ 1 < d
  · refine tk_callSr (pc := 24) d_M_worst_24 l_M_63 k_M_in (m_in_no (x := d) (lo := 0) (hi := 1) rfl rfl h3) rfl (by omega) (Nat.le_of_ble_eq_true rfl) (Nat.le_of_ble_eq_true rfl) (Nat.le_of_ble_eq_true rfl) rfl rfl ?_
    refine tk_if_eq (pc := 27) (tgt := 41) d_M_worst_27 (by decide) (fun hb => ?_) (fun hb => ?_)
    · exact tail
    · exact absurd rfl hb
  refine tk_callSr (pc := 24) d_M_worst_24 l_M_63 k_M_in (m_in_yes (x := d) (lo := 0) (hi := 1) rfl rfl h3) rfl (by omega) (Nat.le_of_ble_eq_true rfl) (Nat.le_of_ble_eq_true rfl) (Nat.le_of_ble_eq_true rfl) rfl rfl ?_
  refine tk_if_eq (pc := 27) (tgt := 41) d_M_worst_27 (by decide) (fun hb => ?_) (fun hb => ?_)
  · exact absurd hb (by decide)
  refine tk_iload (pc := 30) d_M_worst_30 rfl ?_
  refine tk_i2l (pc := 32) d_M_worst_32 ?_
  refine tk_lconst (pc := 33) (v := 0) d_M_worst_33 (by decide) ?_
  refine tk_lconst (pc := 34) (v := 1) d_M_worst_34 (by decide) ?_
  refine tk_callSr (pc := 35) d_M_worst_35 l_M_63 k_M_in (m_in_no (x := k) (lo := 0) (hi := 1) rfl rfl (((hi.resolve_left h1).resolve_left h2).resolve_left h3)) rfl (by omega) (Nat.le_of_ble_eq_true rfl) (Nat.le_of_ble_eq_true rfl) (Nat.le_of_ble_eq_true rfl) rfl rfl ?_
  refine tk_if_ne (pc := 38) (tgt := 45) d_M_worst_38 (by decide) (fun hb => ?_) (fun hb => ?_)
  · exact absurd rfl hb
  · exact tail
theorem m_wst {i e G : Nat} {d k : Int32} {Q : tk_R → tk_W → Prop} (hn' : n < 5) (hG : G < 6) (hi : i < n) (he : e < 4) (hd : ¬ (d < 0 ∨ 1 < d)) (hk : ¬ (k < 0 ∨ 1 < k))
    (K : ∀ (o10 o11 : Option Value), tk_T y_M_worst c_M_worst 13 (some .long) [] 10 0 0 (fun _ => none) 0 0 Q 145 [some (.ref 29), some (.int (nI i)), some (.int (nI e)), some (.int d), some (.int k), some (.int 0), some (.long (psh pl mk (if d = 0 then ma else mb) i e G)), none, some (.long (pkl pl mk i G)), none, o10, o11, none] [] (wd g h p c (md th (nI G) mk mc ms ml ma mb (nI n) le gr mo hl hu pc pl aq sp st nw br o))) :
    tk_T y_M_worst c_M_worst 13 (some .long) [] 10 0 0 (fun _ => none) 0 0 Q 0 [some (.ref 29), some (.int (nI i)), some (.int (nI e)), some (.int d), some (.int k), none, none, none, none, none, none, none, none] [] (wd g h p c (md th (nI G) mk mc ms ml ma mb (nI n) le gr mo hl hu pc pl aq sp st nw br o)) := by
  have he' : ¬ (nI e < 0 ∨ 3 < nI e) := fun q => q.elim (nI_pos (by omega)) (fun z => nI_nlt (a := 3) (b := e) (by omega) (by decide) z)
  refine tk_aload_n (pc := 0) d_M_worst_0 rfl ?_
  refine tk_iload_n (pc := 1) d_M_worst_1 rfl ?_
  refine tk_callVr (pc := 2) d_M_worst_2 l_M_92 k_M_isHeat rfl rfl rfl (m_isHeat_y hi (by omega)) rfl (by omega) (Nat.le_of_ble_eq_true rfl) (Nat.le_of_ble_eq_true rfl) (Nat.le_of_ble_eq_true rfl) rfl rfl ?_
  refine tk_if_eq (pc := 5) (tgt := 41) d_M_worst_5 (by decide) (fun hb => ?_) (fun hb => ?_)
  · exact absurd hb (by decide)
  refine tk_iload_n (pc := 8) d_M_worst_8 rfl ?_
  refine tk_i2l (pc := 9) d_M_worst_9 ?_
  refine tk_lconst (pc := 10) (v := 0) d_M_worst_10 (by decide) ?_
  refine tk_ldc2 (pc := 11) d_M_worst_11 q_M_86 ?_
  refine tk_callSr (pc := 14) d_M_worst_14 l_M_63 k_M_in (m_in_yes (x := nI e) (lo := 0) (hi := 3) rfl rfl he') rfl (by omega) (Nat.le_of_ble_eq_true rfl) (Nat.le_of_ble_eq_true rfl) (Nat.le_of_ble_eq_true rfl) rfl rfl ?_
  refine tk_if_eq (pc := 17) (tgt := 41) d_M_worst_17 (by decide) (fun hb => ?_) (fun hb => ?_)
  · exact absurd hb (by decide)
  refine tk_iload_n (pc := 20) d_M_worst_20 rfl ?_
  refine tk_i2l (pc := 21) d_M_worst_21 ?_
  refine tk_lconst (pc := 22) (v := 0) d_M_worst_22 (by decide) ?_
  refine tk_lconst (pc := 23) (v := 1) d_M_worst_23 (by decide) ?_
  refine tk_callSr (pc := 24) d_M_worst_24 l_M_63 k_M_in (m_in_yes (x := d) (lo := 0) (hi := 1) rfl rfl hd) rfl (by omega) (Nat.le_of_ble_eq_true rfl) (Nat.le_of_ble_eq_true rfl) (Nat.le_of_ble_eq_true rfl) rfl rfl ?_
  refine tk_if_eq (pc := 27) (tgt := 41) d_M_worst_27 (by decide) (fun hb => ?_) (fun hb => ?_)
  · exact absurd hb (by decide)
  refine tk_iload (pc := 30) d_M_worst_30 rfl ?_
  refine tk_i2l (pc := 32) d_M_worst_32 ?_
  refine tk_lconst (pc := 33) (v := 0) d_M_worst_33 (by decide) ?_
  refine tk_lconst (pc := 34) (v := 1) d_M_worst_34 (by decide) ?_
  refine tk_callSr (pc := 35) d_M_worst_35 l_M_63 k_M_in (m_in_yes (x := k) (lo := 0) (hi := 1) rfl rfl hk) rfl (by omega) (Nat.le_of_ble_eq_true rfl) (Nat.le_of_ble_eq_true rfl) (Nat.le_of_ble_eq_true rfl) rfl rfl ?_
  refine tk_if_ne (pc := 38) (tgt := 45) d_M_worst_38 (by decide) (fun hb => ?_) (fun hb => ?_)
  · refine tk_iconst (pc := 45) (v := 0) d_M_worst_45 (by decide) ?_
    refine tk_istore5 (pc := 46) d_M_worst_46 rfl (by decide) ?_
    refine tk_lconst (pc := 48) (v := 0) d_M_worst_48 (by decide) ?_
    refine tk_lstore6 (pc := 49) d_M_worst_49 rfl (by decide) ?_
    refine tk_lconst (pc := 51) (v := 0) d_M_worst_51 (by decide) ?_
    refine tk_lstore8 (pc := 52) d_M_worst_52 rfl (by decide) ?_
    refine tk_iconst (pc := 54) (v := 0) d_M_worst_54 (by decide) ?_
    refine tk_istore10 (pc := 55) d_M_worst_55 rfl (by decide) ?_
    have key : ∀ (m r : Nat) (o11 : Option Value), r + m = G → tk_T y_M_worst c_M_worst 13 (some .long) [] 10 0 0 (fun _ => none) 0 0 Q 57 [some (.ref 29), some (.int (nI i)), some (.int (nI e)), some (.int d), some (.int k), some (.int 0), some (.long (psh pl mk (if d = 0 then ma else mb) i e r)), none, some (.long (pkl pl mk i r)), none, some (.int (nI r)), o11, none] [] (wd g h p c (md th (nI G) mk mc ms ml ma mb (nI n) le gr mo hl hu pc pl aq sp st nw br o)) := by
      intro m
      induction m with
      | zero =>
        intro r o11 hr
        obtain rfl : r = G := by omega
        refine tk_iload (pc := 57) d_M_worst_57 rfl ?_
        refine tk_if_ne (pc := 59) (tgt := 145) d_M_worst_59 (by decide) (fun hc => ?_) (fun hc => ?_)
        · exact absurd rfl hc
        refine tk_iload (pc := 62) d_M_worst_62 rfl ?_
        refine tk_aload_n (pc := 64) d_M_worst_64 rfl ?_
        refine tk_get (pc := 65) d_M_worst_65 f_M_60 rfl rfl ?_
        refine tk_icmp_ge (pc := 68) (tgt := 145) d_M_worst_68 (by decide) (fun hc => ?_) (fun hc => ?_)
        · exact K _ _
        · exact absurd (nI_le (Nat.le_refl _) (by omega)) hc
      | succ m ih =>
        intro r o11 hr
        refine tk_iload (pc := 57) d_M_worst_57 rfl ?_
        refine tk_if_ne (pc := 59) (tgt := 145) d_M_worst_59 (by decide) (fun hc => ?_) (fun hc => ?_)
        · exact absurd rfl hc
        refine tk_iload (pc := 62) d_M_worst_62 rfl ?_
        refine tk_aload_n (pc := 64) d_M_worst_64 rfl ?_
        refine tk_get (pc := 65) d_M_worst_65 f_M_60 rfl rfl ?_
        refine tk_icmp_ge (pc := 68) (tgt := 145) d_M_worst_68 (by decide) (fun hc => ?_) (fun hc => ?_)
        · exact absurd hc (nI_ge (by omega) (by omega))
        refine tk_aload_n (pc := 71) d_M_worst_71 rfl ?_
        refine tk_get (pc := 72) d_M_worst_72 f_M_46 rfl rfl ?_
        refine tk_iconst (pc := 75) (v := 5) d_M_worst_75 (by decide) ?_
        refine tk_iload_n (pc := 76) d_M_worst_76 rfl ?_
        refine tk_imul (pc := 77) d_M_worst_77 ?_
        refine tk_iload (pc := 78) d_M_worst_78 rfl ?_
        refine tk_iadd (pc := 80) d_M_worst_80 ?_
        refine tk_iald (pc := 81) (5*i+r) d_M_worst_81 rfl (ixma 5 i r) (by omega) (by decide) ?_
        refine tk_i2l (pc := 82) d_M_worst_82 ?_
        refine tk_aload_n (pc := 83) d_M_worst_83 rfl ?_
        refine tk_get (pc := 84) d_M_worst_84 f_M_7 rfl rfl ?_
        refine tk_iload (pc := 87) d_M_worst_87 rfl ?_
        refine tk_iald (pc := 89) r d_M_worst_89 rfl rfl (by omega) (by decide) ?_
        refine tk_i2l (pc := 90) d_M_worst_90 ?_
        refine tk_lmul (pc := 91) d_M_worst_91 ?_
        refine tk_lstore11 (pc := 92) d_M_worst_92 rfl (by decide) ?_
        refine tk_lload (pc := 94) d_M_worst_94 rfl ?_
        refine tk_lload (pc := 96) d_M_worst_96 rfl ?_
        refine tk_iload_n (pc := 98) d_M_worst_98 rfl ?_
        by_cases hd0 : d = 0
        · rw [if_pos hd0] at ih ⊢
          refine tk_if_ne (pc := 99) (tgt := 116) d_M_worst_99 (by decide) (fun hx => ?_) (fun hx => ?_)
          · exact absurd hd0 hx
          refine tk_aload_n (pc := 102) d_M_worst_102 rfl ?_
          refine tk_get (pc := 103) d_M_worst_103 f_M_22 rfl rfl ?_
          refine tk_iconst (pc := 106) (v := 4) d_M_worst_106 (by decide) ?_
          refine tk_iload (pc := 107) d_M_worst_107 rfl ?_
          refine tk_imul (pc := 109) d_M_worst_109 ?_
          refine tk_iload_n (pc := 110) d_M_worst_110 rfl ?_
          refine tk_iadd (pc := 111) d_M_worst_111 ?_
          refine tk_iald (pc := 112) (4*r+e) d_M_worst_112 rfl (ixma 4 r e) (by omega) (by decide) ?_
          refine tk_goto (pc := 113) (tgt := 127) d_M_worst_113 (by decide) ?_
          refine tk_i2l (pc := 127) d_M_worst_127 ?_
          refine tk_lmul (pc := 128) d_M_worst_128 ?_
          refine tk_ladd (pc := 129) d_M_worst_129 ?_
          refine tk_lstore6 (pc := 130) d_M_worst_130 rfl (by decide) ?_
          refine tk_lload (pc := 132) d_M_worst_132 rfl ?_
          refine tk_lload (pc := 134) d_M_worst_134 rfl ?_
          refine tk_ladd (pc := 136) d_M_worst_136 ?_
          refine tk_lstore8 (pc := 137) d_M_worst_137 rfl (by decide) ?_
          refine tk_jinc10 (pc := 139) d_M_worst_139 rfl (by decide) ?_
          refine tk_goto (pc := 142) (tgt := 57) d_M_worst_142 (by decide) ?_
          exact tk_eq rfl (by rw [inc1, pkl_s', psh_s']) rfl rfl (ih (r + 1) (some (.long ((pl (5 * i + r)).toInt64 * (mk r).toInt64))) (by omega))
        · rw [if_neg hd0] at ih ⊢
          refine tk_if_ne (pc := 99) (tgt := 116) d_M_worst_99 (by decide) (fun hx => ?_) (fun hx => ?_)
          · refine tk_aload_n (pc := 116) d_M_worst_116 rfl ?_
            refine tk_get (pc := 117) d_M_worst_117 f_M_25 rfl rfl ?_
            refine tk_iconst (pc := 120) (v := 4) d_M_worst_120 (by decide) ?_
            refine tk_iload (pc := 121) d_M_worst_121 rfl ?_
            refine tk_imul (pc := 123) d_M_worst_123 ?_
            refine tk_iload_n (pc := 124) d_M_worst_124 rfl ?_
            refine tk_iadd (pc := 125) d_M_worst_125 ?_
            refine tk_iald (pc := 126) (4*r+e) d_M_worst_126 rfl (ixma 4 r e) (by omega) (by decide) ?_
            refine tk_i2l (pc := 127) d_M_worst_127 ?_
            refine tk_lmul (pc := 128) d_M_worst_128 ?_
            refine tk_ladd (pc := 129) d_M_worst_129 ?_
            refine tk_lstore6 (pc := 130) d_M_worst_130 rfl (by decide) ?_
            refine tk_lload (pc := 132) d_M_worst_132 rfl ?_
            refine tk_lload (pc := 134) d_M_worst_134 rfl ?_
            refine tk_ladd (pc := 136) d_M_worst_136 ?_
            refine tk_lstore8 (pc := 137) d_M_worst_137 rfl (by decide) ?_
            refine tk_jinc10 (pc := 139) d_M_worst_139 rfl (by decide) ?_
            refine tk_goto (pc := 142) (tgt := 57) d_M_worst_142 (by decide) ?_
            exact tk_eq rfl (by rw [inc1, pkl_s', psh_s']) rfl rfl (ih (r + 1) (some (.long ((pl (5 * i + r)).toInt64 * (mk r).toInt64))) (by omega))
          · exact absurd hx hd0
    exact key G 0 none (by omega)
  · exact absurd hb (by decide)
theorem r_worst_2 {i e G : Nat} {d k : Int32} (hn' : n < 5) (hG : G < 6) (hi : i < n) (he : e < 4) (hd : ¬ (d < 0 ∨ 1 < d)) (hk : ¬ (k < 0 ∨ 1 < k)) (hp : pc i < 0) : tk_M y_M_worst w_M_worst 10 0 0 [.ref 29, .int (nI i), .int (nI e), .int d, .int k] (wd g h p c (md th (nI G) mk mc ms ml ma mb (nI n) le gr mo hl hu pc pl aq sp st nw br o)) (tk_det (.inl (some (.long 0))) (wd g h p c (md 2 (nI G) mk mc ms ml ma mb (nI n) le gr mo hl hu pc pl aq sp st nw br o))) := by
  refine tk_M.of (lv := [some (.ref 29), some (.int (nI i)), some (.int (nI e)), some (.int d), some (.int k), none, none, none, none, none, none, none, none]) (by decide) (Nat.le_of_ble_eq_true rfl) rfl ?_
  refine m_wst hn' hG hi he hd hk (fun o10 o11 => ?_)
  refine tk_aload_n (pc := 145) d_M_worst_145 rfl ?_
  refine tk_iload (pc := 146) d_M_worst_146 rfl ?_
  refine tk_aload_n (pc := 148) d_M_worst_148 rfl ?_
  refine tk_iload_n (pc := 149) d_M_worst_149 rfl ?_
  refine tk_callVr (pc := 150) d_M_worst_150 l_M_122 k_M_hasPlan rfl rfl rfl (m_hasPlan_n hi hn' hp) rfl (by omega) (Nat.le_of_ble_eq_true rfl) (Nat.le_of_ble_eq_true rfl) (Nat.le_of_ble_eq_true rfl) rfl rfl ?_
  refine tk_if_ne (pc := 153) (tgt := 160) d_M_worst_153 (by decide) (fun hc => ?_) (fun hc => ?_)
  · exact absurd rfl hc
  refine tk_iconst (pc := 156) (v := 1) d_M_worst_156 (by decide) ?_
  refine tk_goto (pc := 157) (tgt := 161) d_M_worst_157 (by decide) ?_
  refine tk_lload (pc := 161) d_M_worst_161 rfl ?_
  refine tk_lconst (pc := 163) (v := 0) d_M_worst_163 (by decide) ?_
  refine tk_lcmp (pc := 164) d_M_worst_164 ?_
  have t2 : ∀ q : Int32, tk_T y_M_worst c_M_worst 13 (some .long) [] 10 0 0 (fun _ => none) 0 0 (tk_det (.inl (some (.long 0))) (wd g h p c (md 2 (nI G) mk mc ms ml ma mb (nI n) le gr mo hl hu pc pl aq sp st nw br o))) 173 [some (.ref 29), some (.int (nI i)), some (.int (nI e)), some (.int d), some (.int k), some (.int 0), some (.long (psh pl mk (if d = 0 then ma else mb) i e G)), none, some (.long (pkl pl mk i G)), none, o10, o11, none] [.int q, .int 1, .int 0, .ref 29] (wd g h p c (md th (nI G) mk mc ms ml ma mb (nI n) le gr mo hl hu pc pl aq sp st nw br o)) := by
    intro q
    refine tk_callVr (pc := 173) d_M_worst_173 l_M_76 k_M_throwing rfl rfl rfl (m_t2 (z := q)) rfl (by omega) (Nat.le_of_ble_eq_true rfl) (Nat.le_of_ble_eq_true rfl) (Nat.le_of_ble_eq_true rfl) rfl rfl ?_
    refine tk_if_eq (pc := 176) (tgt := 181) d_M_worst_176 (by decide) (fun hd => ?_) (fun hd => ?_)
    · exact absurd hd (by decide)
    refine tk_lconst (pc := 179) (v := 0) d_M_worst_179 (by decide) ?_
    exact tk_lreturn (pc := 180) d_M_worst_180 rfl (Nat.le_of_ble_eq_true rfl) (Nat.le_of_ble_eq_true rfl) ⟨rfl, rfl⟩
  refine tk_if_ne (pc := 165) (tgt := 172) d_M_worst_165 (by decide) (fun hx => ?_) (fun hx => ?_)
  · refine tk_iconst (pc := 172) (v := 0) d_M_worst_172 (by decide) ?_
    exact t2 0
  · refine tk_iconst (pc := 168) (v := 1) d_M_worst_168 (by decide) ?_
    refine tk_goto (pc := 169) (tgt := 173) d_M_worst_169 (by decide) ?_
    exact t2 1
theorem r_worst_3 {i e G : Nat} {d k : Int32} (hn' : n < 5) (hG : G < 6) (hi : i < n) (he : e < 4) (hd : ¬ (d < 0 ∨ 1 < d)) (hk : ¬ (k < 0 ∨ 1 < k)) (hp : ¬ pc i < 0) (h0 : pkl pl mk i G = 0) : tk_M y_M_worst w_M_worst 10 0 0 [.ref 29, .int (nI i), .int (nI e), .int d, .int k] (wd g h p c (md th (nI G) mk mc ms ml ma mb (nI n) le gr mo hl hu pc pl aq sp st nw br o)) (tk_det (.inl (some (.long 0))) (wd g h p c (md 3 (nI G) mk mc ms ml ma mb (nI n) le gr mo hl hu pc pl aq sp st nw br o))) := by
  refine tk_M.of (lv := [some (.ref 29), some (.int (nI i)), some (.int (nI e)), some (.int d), some (.int k), none, none, none, none, none, none, none, none]) (by decide) (Nat.le_of_ble_eq_true rfl) rfl ?_
  refine m_wst hn' hG hi he hd hk (fun o10 o11 => ?_)
  refine tk_aload_n (pc := 145) d_M_worst_145 rfl ?_
  refine tk_iload (pc := 146) d_M_worst_146 rfl ?_
  refine tk_aload_n (pc := 148) d_M_worst_148 rfl ?_
  refine tk_iload_n (pc := 149) d_M_worst_149 rfl ?_
  refine tk_callVr (pc := 150) d_M_worst_150 l_M_122 k_M_hasPlan rfl rfl rfl (m_hasPlan_y hi hn' hp) rfl (by omega) (Nat.le_of_ble_eq_true rfl) (Nat.le_of_ble_eq_true rfl) (Nat.le_of_ble_eq_true rfl) rfl rfl ?_
  refine tk_if_ne (pc := 153) (tgt := 160) d_M_worst_153 (by decide) (fun hc => ?_) (fun hc => ?_)
  · refine tk_iconst (pc := 160) (v := 0) d_M_worst_160 (by decide) ?_
    refine tk_lload (pc := 161) d_M_worst_161 rfl ?_
    refine tk_lconst (pc := 163) (v := 0) d_M_worst_163 (by decide) ?_
    refine tk_lcmp (pc := 164) d_M_worst_164 ?_
    refine tk_if_ne (pc := 165) (tgt := 172) d_M_worst_165 (by decide) (fun hx => ?_) (fun hx => ?_)
    · exact absurd ((lg_cmp_eq _ _).mpr h0) hx
    refine tk_iconst (pc := 168) (v := 1) d_M_worst_168 (by decide) ?_
    refine tk_goto (pc := 169) (tgt := 173) d_M_worst_169 (by decide) ?_
    refine tk_callVr (pc := 173) d_M_worst_173 l_M_76 k_M_throwing rfl rfl rfl (m_t3) rfl (by omega) (Nat.le_of_ble_eq_true rfl) (Nat.le_of_ble_eq_true rfl) (Nat.le_of_ble_eq_true rfl) rfl rfl ?_
    refine tk_if_eq (pc := 176) (tgt := 181) d_M_worst_176 (by decide) (fun hd => ?_) (fun hd => ?_)
    · exact absurd hd (by decide)
    refine tk_lconst (pc := 179) (v := 0) d_M_worst_179 (by decide) ?_
    exact tk_lreturn (pc := 180) d_M_worst_180 rfl (Nat.le_of_ble_eq_true rfl) (Nat.le_of_ble_eq_true rfl) ⟨rfl, rfl⟩
  · exact absurd hc (by decide)
theorem r_worst_0 {i e G a b : Nat} {d k : Int32} (hn' : n < 5) (hG : G < 6) (hi : i < n) (he : e < 4) (hd : ¬ (d < 0 ∨ 1 < d)) (hk : ¬ (k < 0 ∨ 1 < k)) (hp : ¬ pc i < 0) (h1 : pkl pl mk i G = lN b) (h2 : psh pl mk (if d = 0 then ma else mb) i e G = lN a) (hb0 : 0 < b) (hb : b < 2 ^ 63) (ha : a < 2 ^ 63) : tk_M y_M_worst w_M_worst 10 0 0 [.ref 29, .int (nI i), .int (nI e), .int d, .int k] (wd g h p c (md th (nI G) mk mc ms ml ma mb (nI n) le gr mo hl hu pc pl aq sp st nw br o)) (tk_det (.inl (some (.long (lN ((if k = 0 then a else b) / Nat.gcd a b))))) (wd g h p c (md 0 (nI G) mk mc ms ml ma mb (nI n) le gr mo hl hu pc pl aq sp st nw br o))) := by
  have hg0 : 0 < Nat.gcd a b := Nat.gcd_pos_of_pos_right a hb0
  have hgl : Nat.gcd a b ≤ b := Nat.gcd_le_right a hb0
  refine tk_M.of (lv := [some (.ref 29), some (.int (nI i)), some (.int (nI e)), some (.int d), some (.int k), none, none, none, none, none, none, none, none]) (by decide) (Nat.le_of_ble_eq_true rfl) rfl ?_
  refine m_wst hn' hG hi he hd hk (fun o10 o11 => ?_)
  rw [h1, h2]
  refine tk_aload_n (pc := 145) d_M_worst_145 rfl ?_
  refine tk_iload (pc := 146) d_M_worst_146 rfl ?_
  refine tk_aload_n (pc := 148) d_M_worst_148 rfl ?_
  refine tk_iload_n (pc := 149) d_M_worst_149 rfl ?_
  refine tk_callVr (pc := 150) d_M_worst_150 l_M_122 k_M_hasPlan rfl rfl rfl (m_hasPlan_y hi hn' hp) rfl (by omega) (Nat.le_of_ble_eq_true rfl) (Nat.le_of_ble_eq_true rfl) (Nat.le_of_ble_eq_true rfl) rfl rfl ?_
  refine tk_if_ne (pc := 153) (tgt := 160) d_M_worst_153 (by decide) (fun hc => ?_) (fun hc => ?_)
  · refine tk_iconst (pc := 160) (v := 0) d_M_worst_160 (by decide) ?_
    refine tk_lload (pc := 161) d_M_worst_161 rfl ?_
    refine tk_lconst (pc := 163) (v := 0) d_M_worst_163 (by decide) ?_
    refine tk_lcmp (pc := 164) d_M_worst_164 ?_
    refine tk_if_ne (pc := 165) (tgt := 172) d_M_worst_165 (by decide) (fun hx => ?_) (fun hx => ?_)
    · refine tk_iconst (pc := 172) (v := 0) d_M_worst_172 (by decide) ?_
      refine tk_callVr (pc := 173) d_M_worst_173 l_M_76 k_M_throwing rfl rfl rfl (m_t0) rfl (by omega) (Nat.le_of_ble_eq_true rfl) (Nat.le_of_ble_eq_true rfl) (Nat.le_of_ble_eq_true rfl) rfl rfl ?_
      refine tk_if_eq (pc := 176) (tgt := 181) d_M_worst_176 (by decide) (fun hy => ?_) (fun hy => ?_)
      · refine tk_iload (pc := 181) d_M_worst_181 rfl ?_
        have hz : ¬ lN (Nat.gcd a b) = 0 := fun q => by have := (pk_lEQ (a := Nat.gcd a b) (b := 0) (by omega) (by decide)).mp q; omega
        refine tk_if_ne (pc := 183) (tgt := 191) d_M_worst_183 (by decide) (fun hz1 => ?_) (fun hz1 => ?_)
        · refine tk_lload (pc := 191) d_M_worst_191 rfl ?_
          refine tk_lload (pc := 193) d_M_worst_193 rfl ?_
          refine tk_lload (pc := 195) d_M_worst_195 rfl ?_
          refine tk_callSr (pc := 197) d_M_worst_197 l_M_125 k_M_common (m_common ha hb) rfl (by omega) (Nat.le_of_ble_eq_true rfl) (Nat.le_of_ble_eq_true rfl) (Nat.le_of_ble_eq_true rfl) rfl rfl ?_
          refine tk_ldiv (pc := 200) d_M_worst_200 hz ?_
          exact tk_lreturn (pc := 201) d_M_worst_201 rfl (Nat.le_of_ble_eq_true rfl) (Nat.le_of_ble_eq_true rfl) ⟨by rw [if_neg hz1, pk_lDiv hb hg0 (by omega)], rfl⟩
        · refine tk_lload (pc := 186) d_M_worst_186 rfl ?_
          refine tk_goto (pc := 188) (tgt := 193) d_M_worst_188 (by decide) ?_
          refine tk_lload (pc := 193) d_M_worst_193 rfl ?_
          refine tk_lload (pc := 195) d_M_worst_195 rfl ?_
          refine tk_callSr (pc := 197) d_M_worst_197 l_M_125 k_M_common (m_common ha hb) rfl (by omega) (Nat.le_of_ble_eq_true rfl) (Nat.le_of_ble_eq_true rfl) (Nat.le_of_ble_eq_true rfl) rfl rfl ?_
          refine tk_ldiv (pc := 200) d_M_worst_200 hz ?_
          exact tk_lreturn (pc := 201) d_M_worst_201 rfl (Nat.le_of_ble_eq_true rfl) (Nat.le_of_ble_eq_true rfl) ⟨by rw [if_pos hz1, pk_lDiv ha hg0 (by omega)], rfl⟩
      · exact absurd rfl hy
    · have := (lg_cmp_eq _ _).mp hx
      exact absurd ((pk_lEQ (a := b) (b := 0) hb (by decide)).mp this) (by omega)
  · exact absurd hc (by decide)
end REF6
