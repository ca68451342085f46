/-! ===== the reference: plan ===== -/
section REF7
variable {g : sG} {h : sH} {p : sP} {c : sC} {th gn : Int32} {mk mc ms ml ma mb : Ar} {hn : Int32} {le gr mo hl hu pc pl : Ar} {aq sp st : Int32} {nw br : Ar} {o : Nat → Int64} {D : Dt} {v : Nat → Nat}
theorem m_sum0k {k : Nat} (hk : k < 5) (hv : ∀ j, j < k + 1 → nw j = nI (v j)) : tk_M y_M_sum w_M_sum 0 0 0 [.ref 29, .int (nI k), .int 0] (wd g h p c (md th (nI D.G) (nN D.K) (nN D.C) (nN D.S) (nN D.L) (nN D.A) (nN D.B) (nI D.H) (nN D.LE) (nN D.GR) (nN D.MO) (nN D.HL) (nN D.HU) pc pl aq sp st nw br o)) (tk_det (.inl (some (.int (nI (sN v D.K (k + 1)))))) (wd g h p c (md th (nI D.G) (nN D.K) (nN D.C) (nN D.S) (nN D.L) (nN D.A) (nN D.B) (nI D.H) (nN D.LE) (nN D.GR) (nN D.MO) (nN D.HL) (nN D.HU) pc pl aq sp st nw br o))) := by
  have := m_sum0 (g := g) (h := h) (p := p) (c := c) (th := th) (pc := pc) (pl := pl) (aq := aq) (sp := sp) (st := st) (nw := nw) (br := br) (o := o) (D := D) (v := v) (k := k + 1) (by omega) hv
  rw [nI_pred] at this; exact this
theorem m_sum1k {k : Nat} (hk : k < 5) (hv : ∀ j, j < k + 1 → nw j = nI (v j)) : tk_M y_M_sum w_M_sum 0 0 0 [.ref 29, .int (nI k), .int 1] (wd g h p c (md th (nI D.G) (nN D.K) (nN D.C) (nN D.S) (nN D.L) (nN D.A) (nN D.B) (nI D.H) (nN D.LE) (nN D.GR) (nN D.MO) (nN D.HL) (nN D.HU) pc pl aq sp st nw br o)) (tk_det (.inl (some (.int (nI (sN v D.C (k + 1)))))) (wd g h p c (md th (nI D.G) (nN D.K) (nN D.C) (nN D.S) (nN D.L) (nN D.A) (nN D.B) (nI D.H) (nN D.LE) (nN D.GR) (nN D.MO) (nN D.HL) (nN D.HU) pc pl aq sp st nw br o))) := by
  have := m_sum1 (g := g) (h := h) (p := p) (c := c) (th := th) (pc := pc) (pl := pl) (aq := aq) (sp := sp) (st := st) (nw := nw) (br := br) (o := o) (D := D) (v := v) (k := k + 1) (by omega) hv
  rw [nI_pred] at this; exact this
/-- the world where the reference's plan stands with the class at z -/
abbrev rW (g : sG) (h : sH) (p : sP) (c : sC) (D : Dt) (pcx plx : Ar) (ht : Nat) (br : Ar) (o : Nat → Int64) (z : sT) (nw : Ar) : tk_W := (wd g h p c (md 0 (nI D.G) (nN D.K) (nN D.C) (nN D.S) (nN D.L) (nN D.A) (nN D.B) (nI D.H) (nN D.LE) (nN D.GR) (nN D.MO) (nN D.HL) (nN D.HU) (upd pcx ht z.2.2.2.1) (plf plx ht z) 1 z.2.2.2.2.2 z.2.2.2.2.1 nw br o))
/-- the walk at its loop's head, at good q -/
abbrev rT (g : sG) (h : sH) (p : sP) (c : sC) (D : Dt) (pcx plx : Ar) (ht : Nat) (br : Ar) (o : Nat → Int64) (a : Nat) (Q : tk_R → tk_W → Prop) (pc : Nat) (q : Int32) (o4 : Option Value) (z : sT) (nw : Ar) : Prop :=
  tk_T y_M_plan c_M_plan 5 (some .int) [] 10 0 0 (fun _ => none) 0 0 Q pc [some (.ref 29), some (.int (nI ht)), some (.int (nI a)), some (.int q), o4] [] (rW g h p c D pcx plx ht br o z nw)
variable {pcx plx pcc bdc sb0 : Ar} {ht a : Nat} {Q : tk_R → tk_W → Prop}
set_option maxHeartbeats 2000000 in
theorem rp_loop {rec : sT → sT} {k : Nat} (hD : D.ok) (hh : ht < 4) (ha : a ≤ 100000) (hk : k < D.G)
    (H : ∀ (n : Nat) (z : sT) (nw : Ar), n ≤ D.R k → SP D ht a (k + 1) (uN v k n) z nw → z.2.2.2.2.2 = 0 →
      (∀ nw' o4, SP D ht a (k + 1) (uN v k n) (rec z) nw' → (rec z).2.2.2.2.2 = 0 → rT g h p c D pcx plx ht br o a Q 95 (nI k) o4 (rec z) nw') →
      (∀ nw' o4 j, j < 5 → GP D a (rec z) → (rec z).2.2.2.2.2 = 1 → ¬ (rec z).2.2.2.2.1 < nI a → rT g h p c D pcx plx ht br o a Q 95 (nI j) o4 (rec z) nw') →
      rT g h p c D pcx plx ht br o a Q 215 (nI k) (some (.int 0)) z nw) :
    ∀ (r n : Nat) (z : sT) (nw : Ar) (o4 : Option Value), n + r = D.R k + 1 → LI D ht a k v n z nw → nw k = nI n - 1 → z.2.2.2.2.2 = 0 →
      (∀ nw' o4, SP D ht a k v (tryL rec (pbf (gD D) (hHt D pcc bdc) ht sb0 D.G) (nI a) k r n z) nw' → (tryL rec (pbf (gD D) (hHt D pcc bdc) ht sb0 D.G) (nI a) k r n z).2.2.2.2.2 = 0 → rT g h p c D pcx plx ht br o a Q 95 (nI k - 1) o4 (tryL rec (pbf (gD D) (hHt D pcc bdc) ht sb0 D.G) (nI a) k r n z) nw') →
      (∀ nw' o4 j, j < 5 → GP D a (tryL rec (pbf (gD D) (hHt D pcc bdc) ht sb0 D.G) (nI a) k r n z) → (tryL rec (pbf (gD D) (hHt D pcc bdc) ht sb0 D.G) (nI a) k r n z).2.2.2.2.2 = 1 → ¬ (tryL rec (pbf (gD D) (hHt D pcc bdc) ht sb0 D.G) (nI a) k r n z).2.2.2.2.1 < nI a → rT g h p c D pcx plx ht br o a Q 95 (nI j) o4 (tryL rec (pbf (gD D) (hHt D pcc bdc) ht sb0 D.G) (nI a) k r n z) nw') →
      rT g h p c D pcx plx ht br o a Q 95 (nI k) o4 z nw := by
  have hG := hD.G
  have hR := hD.R k
  generalize hsb : pbf (gD D) (hHt D pcc bdc) ht sb0 D.G = sb
  intro r
  induction r with
  | zero =>
    intro n z nw o4 hn hL hnw hsp Kr Ks
    refine tk_iload_n (pc := 95) d_M_plan_95 rfl ?_
    refine tk_if_lt (pc := 96) (tgt := 264) d_M_plan_96 (by decide) (fun hb => ?_) (fun hb => ?_)
    · exact absurd hb (nI_pos (by omega))
    refine tk_aload_n (pc := 99) d_M_plan_99 rfl ?_
    refine tk_get (pc := 100) d_M_plan_100 f_M_105 rfl rfl ?_
    refine tk_if_ne (pc := 103) (tgt := 264) d_M_plan_103 (by decide) (fun hc => ?_) (fun hc => ?_)
    · exact absurd hsp hc
    refine tk_aload_n (pc := 106) d_M_plan_106 rfl ?_
    refine tk_get (pc := 107) d_M_plan_107 f_M_49 rfl rfl ?_
    refine tk_iload_n (pc := 110) d_M_plan_110 rfl ?_
    refine tk_iald (pc := 111) k d_M_plan_111 rfl rfl (by omega) (by decide) ?_
    refine tk_aload_n (pc := 112) d_M_plan_112 rfl ?_
    refine tk_iload_n (pc := 113) d_M_plan_113 rfl ?_
    refine tk_callVr (pc := 114) d_M_plan_114 l_M_111 k_M_top rfl rfl rfl (m_topD hD (k := k) (by omega)) rfl (by omega) (Nat.le_of_ble_eq_true rfl) (Nat.le_of_ble_eq_true rfl) (Nat.le_of_ble_eq_true rfl) rfl rfl ?_
    refine tk_icmp_ne (pc := 117) (tgt := 133) d_M_plan_117 (by decide) (fun hd => ?_) (fun hd => ?_)
    · exact absurd (by rw [hnw, show n = D.R k + 1 by omega, nI_pred]) hd
    refine tk_aload_n (pc := 120) d_M_plan_120 rfl ?_
    refine tk_get (pc := 121) d_M_plan_121 f_M_49 rfl rfl ?_
    refine tk_iload_n (pc := 124) d_M_plan_124 rfl ?_
    refine tk_iconst (pc := 125) (v := -1) d_M_plan_125 (by decide) ?_
    refine tk_iast (pc := 126) k d_M_plan_126 rfl rfl (by omega) (by decide) ?_
    refine tk_jinc3 (pc := 127) d_M_plan_127 rfl (by decide) ?_
    rw [nm1i]
    refine tk_goto (pc := 130) (tgt := 95) d_M_plan_130 (by decide) ?_
    exact Kr _ _ (li_exit hL) hsp
  | succ r ih =>
    intro n z nw o4 hn hL hnw hsp Kr Ks
    refine tk_iload_n (pc := 95) d_M_plan_95 rfl ?_
    refine tk_if_lt (pc := 96) (tgt := 264) d_M_plan_96 (by decide) (fun hb => ?_) (fun hb => ?_)
    · exact absurd hb (nI_pos (by omega))
    refine tk_aload_n (pc := 99) d_M_plan_99 rfl ?_
    refine tk_get (pc := 100) d_M_plan_100 f_M_105 rfl rfl ?_
    refine tk_if_ne (pc := 103) (tgt := 264) d_M_plan_103 (by decide) (fun hc => ?_) (fun hc => ?_)
    · exact absurd hsp hc
    refine tk_aload_n (pc := 106) d_M_plan_106 rfl ?_
    refine tk_get (pc := 107) d_M_plan_107 f_M_49 rfl rfl ?_
    refine tk_iload_n (pc := 110) d_M_plan_110 rfl ?_
    refine tk_iald (pc := 111) k d_M_plan_111 rfl rfl (by omega) (by decide) ?_
    refine tk_aload_n (pc := 112) d_M_plan_112 rfl ?_
    refine tk_iload_n (pc := 113) d_M_plan_113 rfl ?_
    refine tk_callVr (pc := 114) d_M_plan_114 l_M_111 k_M_top rfl rfl rfl (m_topD hD (k := k) (by omega)) rfl (by omega) (Nat.le_of_ble_eq_true rfl) (Nat.le_of_ble_eq_true rfl) (Nat.le_of_ble_eq_true rfl) rfl rfl ?_
    refine tk_icmp_ne (pc := 117) (tgt := 133) d_M_plan_117 (by decide) (fun hd => ?_) (fun hd => ?_)
    · refine tk_aload_n (pc := 133) d_M_plan_133 rfl ?_
      refine tk_get (pc := 134) d_M_plan_134 f_M_108 rfl rfl ?_
      refine tk_iload_n (pc := 137) d_M_plan_137 rfl ?_
      obtain ⟨s, hs1, hs2⟩ := hL.1.2.2.2
      by_cases hs : z.2.2.2.2.1 < nI a
      · have e : tryL rec sb (nI a) k (r + 1) n z = tryL rec sb (nI a) k r (n + 1) (if gvu (try1 sb k n z).1 (try1 sb k n z).2.2.2.1 (k + 1) = 0 then rec (try1 sb k n z) else try1 sb k n z) := by
          show (if z.2.2.2.2.1 < nI a then _ else _) = _
          rw [if_pos hs]
        rw [e] at Kr Ks
        have hS := li_try (sb := sb0) (pc := pcc) (bd := bdc) hk (show n ≤ 6 by omega) hL hs ha
        rw [hsb] at hS
        refine tk_icmp_ne (pc := 138) (tgt := 149) d_M_plan_138 (by decide) (fun he => ?_) (fun he => ?_)
        · refine tk_aload_n (pc := 149) d_M_plan_149 rfl ?_
          refine tk_get (pc := 150) d_M_plan_150 f_M_49 rfl rfl ?_
          refine tk_iload_n (pc := 153) d_M_plan_153 rfl ?_
          refine tk_dup2 (pc := 154) d_M_plan_154 rfl rfl ?_
          refine tk_iald (pc := 155) k d_M_plan_155 rfl rfl (by omega) (by decide) ?_
          refine tk_iconst (pc := 156) (v := 1) d_M_plan_156 (by decide) ?_
          refine tk_iadd (pc := 157) d_M_plan_157 ?_
          refine tk_iast (pc := 158) k d_M_plan_158 rfl rfl (by omega) (by decide) ?_
          refine tk_aload_n (pc := 159) d_M_plan_159 rfl ?_
          refine tk_dup (pc := 160) d_M_plan_160 rfl ?_
          refine tk_get (pc := 161) d_M_plan_161 f_M_108 rfl rfl ?_
          refine tk_iconst (pc := 164) (v := 1) d_M_plan_164 (by decide) ?_
          refine tk_iadd (pc := 165) d_M_plan_165 ?_
          refine tk_put (pc := 166) d_M_plan_166 f_M_108 p_M_18 rfl rfl rfl (Nat.le_of_ble_eq_true rfl) rfl ?_
          rw [hnw, nm1a]
          refine tk_ww (rW g h p c D pcx plx ht br o (try1 sb k n z) (upd nw k (nI n))) rfl ?_
          have hw : ∀ j, j < k + 1 → upd nw k (nI n) j = nI (uN v k n j) := fun j hj => (hS.2.2.1 j hj).2.1
          have hw6 : ∀ j, j < k + 1 → uN v k n j ≤ 6 := fun j hj => (hS.2.2.1 j hj).1
          have bC := bd_C hD (n := k + 1) (by omega) hw6
          have bK := bd_K hD (n := k + 1) (by omega) hw6
          have bg := hD.GR ht
          have gv := row_gvu (bc := (try1 sb k n z).2.2.2.1) hD (k := k + 1) (by omega) hw6 (hS.2.1 (k + 1) (Nat.le_refl _))
          have hsp1 : (try1 sb k n z).2.2.2.2.2 = 0 := hsp
          have hbc := hS.1.2.2.1
          generalize hz1 : try1 sb k n z = z1 at hS gv hsp1 hbc Kr Ks
          generalize hnw1 : upd nw k (nI n) = nw1 at hS hw
          -- given up
          have yes : ovr D ht (uN v k n) (k + 1) z1.2.2.2.1 → rT g h p c D pcx plx ht br o a Q 208 (nI k) o4 z1 nw1 := by
            intro ho
            have hne : ¬ gvu z1.1 z1.2.2.2.1 (k + 1) = 0 := fun q => gv.mp q ho
            rw [if_neg hne] at Kr Ks
            refine tk_iconst (pc := 208) (v := 1) d_M_plan_208 (by decide) ?_
            refine tk_goto (pc := 209) (tgt := 213) d_M_plan_209 (by decide) ?_
            refine tk_istore4 (pc := 213) d_M_plan_213 rfl (by decide) ?_
            refine tk_iload (pc := 215) d_M_plan_215 rfl ?_
            refine tk_if_ne (pc := 217) (tgt := 243) d_M_plan_217 (by decide) (fun hx => ?_) (fun hx => ?_)
            · refine tk_iload (pc := 243) d_M_plan_243 rfl ?_
              refine tk_if_ne (pc := 245) (tgt := 261) d_M_plan_245 (by decide) (fun hy => ?_) (fun hy => ?_)
              · refine tk_goto (pc := 261) (tgt := 95) d_M_plan_261 (by decide) ?_
                exact ih (n + 1) z1 nw1 _ (by omega) (sp_back hS).1 (sp_back hS).2 hsp1 Kr Ks
              · exact absurd hy (by decide)
            · exact absurd hx (by decide)
          -- not given up
          have no : ¬ ovr D ht (uN v k n) (k + 1) z1.2.2.2.1 → rT g h p c D pcx plx ht br o a Q 212 (nI k) o4 z1 nw1 := by
            intro ho
            rw [if_pos (gv.mpr ho)] at Kr Ks
            refine tk_iconst (pc := 212) (v := 0) d_M_plan_212 (by decide) ?_
            refine tk_istore4 (pc := 213) d_M_plan_213 rfl (by decide) ?_
            refine H n z1 nw1 (by omega) hS hsp1 (fun nw' o4' h1 h2 => ?_) (fun nw' o4' j hj h1 h2 h3 => ?_)
            · exact ih (n + 1) (rec z1) nw' o4' (by omega) (sp_back h1).1 (sp_back h1).2 h2 Kr Ks
            · rw [tryL_spent h2 h3] at Ks
              exact Ks nw' o4' j hj h1 h2 h3
          have hvy : (¬ (¬ z1.2.2.2.1 = -1 ∧ ¬ nI (sN (uN v k n) D.C (k + 1)) < z1.2.2.2.1)) → rT g h p c D pcx plx ht br o a Q 193 (nI k) o4 z1 nw1 := by
            intro hx1
            refine tk_aload_n (pc := 193) d_M_plan_193 rfl ?_
            refine tk_iload_n (pc := 194) d_M_plan_194 rfl ?_
            refine tk_iconst (pc := 195) (v := 0) d_M_plan_195 (by decide) ?_
            refine tk_callVr (pc := 196) d_M_plan_196 l_M_97 k_M_sum rfl rfl rfl (m_sum0k (v := uN v k n) (k := k) (by omega) hw) rfl (by omega) (Nat.le_of_ble_eq_true rfl) (Nat.le_of_ble_eq_true rfl) (Nat.le_of_ble_eq_true rfl) rfl rfl ?_
            refine tk_aload_n (pc := 199) d_M_plan_199 rfl ?_
            refine tk_get (pc := 200) d_M_plan_200 f_M_31 rfl rfl ?_
            refine tk_iload_n (pc := 203) d_M_plan_203 rfl ?_
            refine tk_iald (pc := 204) ht d_M_plan_204 rfl rfl hh (by decide) ?_
            refine tk_icmp_le (pc := 205) (tgt := 212) d_M_plan_205 (by decide) (fun hx => ?_) (fun hx => ?_)
            · refine no (fun q => q.elim hx1 (fun q2 => ?_))
              have := (nI_leI (by omega) (by omega)).mp (show nI (sN (uN v k n) D.K (k + 1)) ≤ nI (D.GR ht) from hx)
              omega
            · refine yes (Or.inr ?_)
              have : ¬ sN (uN v k n) D.K (k + 1) ≤ D.GR ht := fun q => hx (show nI (sN (uN v k n) D.K (k + 1)) ≤ nI (D.GR ht) from nI_le q (by omega))
              omega
          refine tk_aload_n (pc := 169) d_M_plan_169 rfl ?_
          refine tk_get (pc := 170) d_M_plan_170 f_M_43 rfl rfl ?_
          refine tk_iload_n (pc := 173) d_M_plan_173 rfl ?_
          refine tk_iald (pc := 174) ht d_M_plan_174 rfl rfl hh (by decide) ?_
          rw [pk_us]
          refine tk_if_lt (pc := 175) (tgt := 193) d_M_plan_175 (by decide) (fun hx => ?_) (fun hx => ?_)
          · refine hvy (fun q => ?_)
            rcases hbc with q2 | ⟨⟨b, b1, b2⟩, -⟩
            · exact q.1 q2
            · rw [b2] at hx; exact nI_pos (by omega) hx
          · have hne : ¬ z1.2.2.2.1 = -1 := fun q => hx (by rw [q]; decide)
            obtain ⟨⟨b, b1, b2⟩, -⟩ := hbc.resolve_left hne
            refine tk_aload_n (pc := 178) d_M_plan_178 rfl ?_
            refine tk_iload_n (pc := 179) d_M_plan_179 rfl ?_
            refine tk_iconst (pc := 180) (v := 1) d_M_plan_180 (by decide) ?_
            refine tk_callVr (pc := 181) d_M_plan_181 l_M_97 k_M_sum rfl rfl rfl (m_sum1k (v := uN v k n) (k := k) (by omega) hw) rfl (by omega) (Nat.le_of_ble_eq_true rfl) (Nat.le_of_ble_eq_true rfl) (Nat.le_of_ble_eq_true rfl) rfl rfl ?_
            refine tk_aload_n (pc := 184) d_M_plan_184 rfl ?_
            refine tk_get (pc := 185) d_M_plan_185 f_M_43 rfl rfl ?_
            refine tk_iload_n (pc := 188) d_M_plan_188 rfl ?_
            refine tk_iald (pc := 189) ht d_M_plan_189 rfl rfl hh (by decide) ?_
            rw [pk_us]
            refine tk_icmp_ge (pc := 190) (tgt := 208) d_M_plan_190 (by decide) (fun hy => ?_) (fun hy => ?_)
            · refine yes (Or.inl ⟨hne, fun q => ?_⟩)
              rw [b2] at hy q
              exact absurd ((nI_ltI (by omega) (by omega)).mp q) (by have := (nI_leI (by omega) (by omega)).mp hy; omega)
            · refine hvy (fun q => q.2 ?_)
              rw [b2] at hy ⊢
              refine nI_lt ?_ (by omega)
              rcases Nat.lt_or_ge (sN (uN v k n) D.C (k + 1)) b with w | w
              · exact w
              · exact absurd (nI_le w (by omega)) hy
        · exact absurd hs (by rw [he]; exact nI_nlt (Nat.le_refl _) (by omega))
      · have hsa : s = a := by
          rcases Nat.lt_or_ge s a with q | q
          · exact absurd (by rw [hs2]; exact nI_lt q (by omega)) hs
          · omega
        have e : tryL rec sb (nI a) k (r + 1) n z = (z.1, z.2.1, z.2.2.1, z.2.2.2.1, z.2.2.2.2.1, 1) := by
          show (if z.2.2.2.2.1 < nI a then _ else _) = _
          rw [if_neg hs]
        rw [e] at Ks
        refine tk_icmp_ne (pc := 138) (tgt := 149) d_M_plan_138 (by decide) (fun he => ?_) (fun he => ?_)
        · exact absurd (by rw [hs2, hsa]) he
        · refine tk_aload_n (pc := 141) d_M_plan_141 rfl ?_
          refine tk_iconst (pc := 142) (v := 1) d_M_plan_142 (by decide) ?_
          refine tk_put (pc := 143) d_M_plan_143 f_M_105 p_M_17 rfl rfl rfl (Nat.le_of_ble_eq_true rfl) rfl ?_
          refine tk_goto (pc := 146) (tgt := 95) d_M_plan_146 (by decide) ?_
          exact Ks nw o4 k (by omega) hL.1 rfl hs
    · exact absurd hd (by rw [hnw]; exact nm1 (by omega) (by omega))
set_option maxHeartbeats 2000000 in
theorem rp (hD : D.ok) (hh : ht < 4) (ha : a ≤ 100000) : ∀ (m k : Nat) (v : Nat → Nat) (x : sT) (nw : Ar) (o4 : Option Value), k + (m + 1) = D.G → SP D ht a k v x nw → x.2.2.2.2.2 = 0 →
      (∀ nw' o4, SP D ht a k v (tryF D.G D.R (pbf (gD D) (hHt D pcc bdc) ht sb0 D.G) (nI a) (m + 1) k x) nw' → (tryF D.G D.R (pbf (gD D) (hHt D pcc bdc) ht sb0 D.G) (nI a) (m + 1) k x).2.2.2.2.2 = 0 → rT g h p c D pcx plx ht br o a Q 95 (nI k - 1) o4 (tryF D.G D.R (pbf (gD D) (hHt D pcc bdc) ht sb0 D.G) (nI a) (m + 1) k x) nw') →
      (∀ nw' o4 j, j < 5 → GP D a (tryF D.G D.R (pbf (gD D) (hHt D pcc bdc) ht sb0 D.G) (nI a) (m + 1) k x) → (tryF D.G D.R (pbf (gD D) (hHt D pcc bdc) ht sb0 D.G) (nI a) (m + 1) k x).2.2.2.2.2 = 1 → ¬ (tryF D.G D.R (pbf (gD D) (hHt D pcc bdc) ht sb0 D.G) (nI a) (m + 1) k x).2.2.2.2.1 < nI a → rT g h p c D pcx plx ht br o a Q 95 (nI j) o4 (tryF D.G D.R (pbf (gD D) (hHt D pcc bdc) ht sb0 D.G) (nI a) (m + 1) k x) nw') →
      rT g h p c D pcx plx ht br o a Q 95 (nI k) o4 x nw := by
  have hG := hD.G
  intro m
  induction m with
  | zero =>
    intro k v x nw o4 hk hS hsp Kr Ks
    refine rp_loop (rec := tryF D.G D.R (pbf (gD D) (hHt D pcc bdc) ht sb0 D.G) (nI a) 0 (k + 1)) (pcc := pcc) (bdc := bdc) (sb0 := sb0) (v := v) hD hh ha (by omega) ?_ (D.R k + 1) 0 (stl x.1 k 12, x.2) nw o4 (by omega) (sp_enter hS) (by rw [hS.2.2.2 k (Nat.le_refl _) (by omega)]; rfl) hsp Kr Ks
    intro n z nw hn hS2 hsp2 Kr2 Ks2
    have eG : k + 1 = D.G := by omega
    rw [eG] at hS2 Kr2
    refine tk_iload (pc := 215) d_M_plan_215 rfl ?_
    refine tk_if_ne (pc := 217) (tgt := 243) d_M_plan_217 (by decide) (fun hx => ?_) (fun hx => ?_)
    · exact absurd rfl hx
    refine tk_iload_n (pc := 220) d_M_plan_220 rfl ?_
    refine tk_aload_n (pc := 221) d_M_plan_221 rfl ?_
    refine tk_get (pc := 222) d_M_plan_222 f_M_60 rfl rfl ?_
    refine tk_iconst (pc := 225) (v := 1) d_M_plan_225 (by decide) ?_
    refine tk_isub (pc := 226) d_M_plan_226 ?_
    rw [show nI D.G - 1 = nI k from by rw [← eG, nI_pred]]
    refine tk_icmp_ne (pc := 227) (tgt := 243) d_M_plan_227 (by decide) (fun hy => ?_) (fun hy => ?_)
    · exact absurd rfl hy
    refine tk_aload_n (pc := 230) d_M_plan_230 rfl ?_
    refine tk_iload_n (pc := 231) d_M_plan_231 rfl ?_
    have fin : ∀ w : tk_W, w = rW g h p c D pcx plx ht br o (kih D.G z) nw → tk_T y_M_plan c_M_plan 5 (some .int) [] 10 0 0 (fun _ => none) 0 0 Q 243 [some (.ref 29), some (.int (nI ht)), some (.int (nI a)), some (.int (nI k)), some (.int 0)] [] w := by
      intro w hw
      subst hw
      refine tk_iload (pc := 243) d_M_plan_243 rfl ?_
      refine tk_if_ne (pc := 245) (tgt := 261) d_M_plan_245 (by decide) (fun h1 => ?_) (fun h1 => ?_)
      · exact absurd rfl h1
      refine tk_iload_n (pc := 248) d_M_plan_248 rfl ?_
      refine tk_aload_n (pc := 249) d_M_plan_249 rfl ?_
      refine tk_get (pc := 250) d_M_plan_250 f_M_60 rfl rfl ?_
      refine tk_iconst (pc := 253) (v := 1) d_M_plan_253 (by decide) ?_
      refine tk_isub (pc := 254) d_M_plan_254 ?_
      rw [show nI D.G - 1 = nI k from by rw [← eG, nI_pred]]
      refine tk_icmp_ge (pc := 255) (tgt := 261) d_M_plan_255 (by decide) (fun h2 => ?_) (fun h2 => ?_)
      · refine tk_goto (pc := 261) (tgt := 95) d_M_plan_261 (by decide) ?_
        have hsp3 : (kih D.G z).2.2.2.2.2 = 0 := by
          simp only [kih]; split
          · exact hsp2
          · exact hsp2
        exact Kr2 nw _ (sp_kih hD hS2) hsp3
      · exact absurd (nI_le (Nat.le_refl _) (by omega)) h2
    refine tk_callVr (pc := 232) d_M_plan_232 l_M_115 k_M_broken rfl rfl rfl (m_Mbroken (v := uN v k n) hD hh (fun j hj => (hS2.2.2.1 j hj).2.1) (fun j hj => (hS2.2.2.1 j hj).1)) rfl (by omega) (Nat.le_of_ble_eq_true rfl) (Nat.le_of_ble_eq_true rfl) (Nat.le_of_ble_eq_true rfl) rfl rfl ?_
    have ek := kih_pos hD hS2
    refine tk_if_ne (pc := 235) (tgt := 243) d_M_plan_235 (by decide) (fun hz => ?_) (fun hz => ?_)
    · refine fin _ ?_
      have : kih D.G z = z := by simp only [kih]; rw [if_neg (by rw [ek]; exact hz)]
      rw [this]
    · refine tk_aload_n (pc := 238) d_M_plan_238 rfl ?_
      refine tk_iload_n (pc := 239) d_M_plan_239 rfl ?_
      refine tk_callVr (pc := 240) d_M_plan_240 l_M_118 k_M_keep rfl rfl rfl (m_keep (v := uN v k n) hD hh (fun j hj => (hS2.2.2.1 j hj).2.1)) rfl (by omega) (Nat.le_of_ble_eq_true rfl) (Nat.le_of_ble_eq_true rfl) (Nat.le_of_ble_eq_true rfl) rfl rfl ?_
      refine fin _ ?_
      have h3 := kih_pl (plx := plx) hD hS2 (by rw [ek]; exact hz)
      have h4 : upd (upd pcx ht z.2.2.2.1) ht (nI (sN (uN v k n) D.C D.G)) = upd pcx ht (kih D.G z).2.2.2.1 := by
        rw [h3.2]; funext j; simp only [upd]; split <;> rfl
      have h5 : (kih D.G z).2.2.2.2 = z.2.2.2.2 := by
        simp only [kih]; split <;> rfl
      rw [h3.1, h4]
      show _ = rW g h p c D pcx plx ht br o (kih D.G z) nw
      unfold rW
      rw [h5]
  | succ m IH =>
    intro k v x nw o4 hk hS hsp Kr Ks
    refine rp_loop (rec := tryF D.G D.R (pbf (gD D) (hHt D pcc bdc) ht sb0 D.G) (nI a) (m + 1) (k + 1)) (pcc := pcc) (bdc := bdc) (sb0 := sb0) (v := v) hD hh ha (by omega) ?_ (D.R k + 1) 0 (stl x.1 k 12, x.2) nw o4 (by omega) (sp_enter hS) (by rw [hS.2.2.2 k (Nat.le_refl _) (by omega)]; rfl) hsp Kr Ks
    intro n z nw hn hS2 hsp2 Kr2 Ks2
    have hlt : ¬ nI k = nI D.G - 1 := by
      obtain ⟨q, hq⟩ : ∃ q, D.G = q + 1 := ⟨D.G - 1, by omega⟩
      rw [hq, nI_pred]
      intro z; have := (nI_eq (by omega) (by omega)).mp z; omega
    have hle : ¬ nI D.G - 1 ≤ nI k := by
      obtain ⟨q, hq⟩ : ∃ q, D.G = q + 1 := ⟨D.G - 1, by omega⟩
      rw [hq, nI_pred]
      exact nI_ge (by omega) (by omega)
    refine tk_iload (pc := 215) d_M_plan_215 rfl ?_
    refine tk_if_ne (pc := 217) (tgt := 243) d_M_plan_217 (by decide) (fun hx => ?_) (fun hx => ?_)
    · exact absurd rfl hx
    refine tk_iload_n (pc := 220) d_M_plan_220 rfl ?_
    refine tk_aload_n (pc := 221) d_M_plan_221 rfl ?_
    refine tk_get (pc := 222) d_M_plan_222 f_M_60 rfl rfl ?_
    refine tk_iconst (pc := 225) (v := 1) d_M_plan_225 (by decide) ?_
    refine tk_isub (pc := 226) d_M_plan_226 ?_
    refine tk_icmp_ne (pc := 227) (tgt := 243) d_M_plan_227 (by decide) (fun hy => ?_) (fun hy => ?_)
    · refine tk_iload (pc := 243) d_M_plan_243 rfl ?_
      refine tk_if_ne (pc := 245) (tgt := 261) d_M_plan_245 (by decide) (fun h1 => ?_) (fun h1 => ?_)
      · exact absurd rfl h1
      refine tk_iload_n (pc := 248) d_M_plan_248 rfl ?_
      refine tk_aload_n (pc := 249) d_M_plan_249 rfl ?_
      refine tk_get (pc := 250) d_M_plan_250 f_M_60 rfl rfl ?_
      refine tk_iconst (pc := 253) (v := 1) d_M_plan_253 (by decide) ?_
      refine tk_isub (pc := 254) d_M_plan_254 ?_
      refine tk_icmp_ge (pc := 255) (tgt := 261) d_M_plan_255 (by decide) (fun h2 => ?_) (fun h2 => ?_)
      · exact absurd h2 hle
      refine tk_jinc3 (pc := 258) d_M_plan_258 rfl (by decide) ?_
      rw [inc1]
      refine tk_goto (pc := 261) (tgt := 95) d_M_plan_261 (by decide) ?_
      refine IH (k + 1) (uN v k n) z nw _ (by omega) hS2 hsp2 (fun nw' o4' h3 h4 => ?_) Ks2
      rw [nI_pred]
      exact Kr2 nw' o4' h3 h4
    · exact absurd hy hlt
end REF7
