/-! ===== the calls, one by one: take, bound, worst, clash, plan ===== -/
theorem op_take {th : Int32} {o : Nat → Int64} {w : tk_W} (hI : INV th o w) (i : Int32) : OPi y_L_take w_L_take y_M_take w_M_take [.ref 0, .int i, .ref 45] [.ref 29, .int i] w := by
  obtain ⟨⟨G, K, C, S, L, A, B, H, LE, GR, HL, HU, MO⟩, pcc, bd, S1, ch, be, bc, al, st, sp, dn, S2, s, ah, pcm, pl, nw, br, rfl, hR⟩ := hI
  have hG : G ≤ 5 := hR.1.G
  have hH : H ≤ 4 := hR.1.H
  rcases ixc i (n := H) (by omega) with hx | ⟨i', hi, rfl⟩
  · exact opi_of (o := o) (wl_take_1 (m_take_no (n := H) (gn := G) hx) rfl rfl) rfl rfl (r_take_1 (n := H) (by omega) hx) ⟨_, pcc, bd, S1, ch, be, bc, al, st, sp, dn, S2, s, ah, pcm, pl, nw, br, rfl, hR⟩ (fun q => absurd q (by decide))
  rcases pln_at (j := i') hR.2.2.2.2.2 hi hH with ⟨q1, q2⟩ | ⟨q1, q2, q4, P, q3⟩
  · exact opi_of (o := o) (wl_take_2 (m_take_turn (n := H) (gn := G) hi (by omega) q2) rfl rfl) rfl rfl (r_take_2 (n := H) (G := G) (by omega) (by omega) hi q1) ⟨_, pcc, bd, S1, ch, be, bc, al, st, sp, dn, S2, s, ah, pcm, pl, nw, br, rfl, hR⟩ (fun q => absurd q (by decide))
  have fe := few_eq (gs := nN S) (bd := bd) (pl := pl) (ht := i') (n := G) (fun j hj => by rw [(q3 j (by omega)).2.1, (q3 j (by omega)).2.2])
  by_cases hf : enF (nN S) bd i' G 0 = 0
  · exact opi_of (o := o) (wl_take_3 (m_take_few (n := H) (gn := G) hi (by omega) (by omega) q2 hf) rfl rfl) rfl rfl (r_take_3 (n := H) (G := G) (by omega) (by omega) hi q1 (fun z => (fe.mpr z) hf)) ⟨_, pcc, bd, S1, ch, be, bc, al, st, sp, dn, S2, s, ah, pcm, pl, nw, br, rfl, hR⟩ (fun q => absurd q (by decide))
  have hf2 := fe.mp hf
  have hle : ∀ j, j < G → P j ≤ S j := fun j hj => by
    have h1 := (rfw_iff pl (nN S) i' G).mp hf2 j hj
    have h2 : S j ≤ 6 := hR.1.S j
    have h3 := (q3 j (by omega)).1
    rw [(q3 j (by omega)).2.2] at h1
    exact (nI_leI (by omega) (by omega)).mp h1
  have e1 : tkf (nN S) bd i' G = nN (fun j => if j < G then S j - P j else S j) := by
    funext j
    simp only [tkf, nN]
    by_cases q : j < G
    · rw [if_pos q, if_pos q, (q3 j (by omega)).2.1, pk_sub (hle j q)]
    · rw [if_neg q, if_neg q]
  have e2 : tkf (nN S) pl i' G = nN (fun j => if j < G then S j - P j else S j) := by
    rw [← e1]
    exact (tkf_eq (fun j hj => by rw [(q3 j (by omega)).2.1, Nat.mul_comm i' 5, (q3 j (by omega)).2.2])).symm
  refine opi_of (o := vp_updL o 0 (pcc i').toInt64) (wl_take_s (m_take_ok (n := H) (gn := G) hi (by omega) (by omega) q2 hf) rfl rfl) rfl rfl (r_take_0 (n := H) (G := G) (by omega) (by omega) hi q1 hf2) ⟨(G, K, C, fun j => if j < G then S j - P j else S j, L, A, B, H, LE, GR, HL, HU, MO), upd pcc i' (-1), bd, S1, ch, be, bc, al, st, sp, dn, S2, s, ah, upd pcm i' (-1), pl, nw, br, ?_, ?_⟩ (fun _ => by rw [updL0, q4])
  · show _ = wd (nI G, nN K, nN C, nN (fun j => if j < G then S j - P j else S j), nN L, nN A, nN B) (nI H, nN LE, nN GR, nN HL, nN HU, nN MO, upd pcc i' (-1), bd) (S1, ch, be, bc, al, st, sp, dn) (S2, s, ah) (md 0 (nI G) (nN K) (nN C) (nN (fun j => if j < G then S j - P j else S j)) (nN L) (nN A) (nN B) (nI H) (nN LE) (nN GR) (nN MO) (nN HL) (nN HU) (upd pcm i' (-1)) pl dn sp st nw br _)
    rw [e1, e2]
  · obtain ⟨⟨g1, g2, g3, g4, g5, g6⟩, r2, r3, r4, r5, r6⟩ := hR
    refine ⟨⟨g1, g2, g3, g4, fun j => ?_, g6⟩, r2, r3, r4, r5, fun j hj => ?_⟩
    · show (if j < G then S j - P j else S j) ≤ 6
      have : S j ≤ 6 := g5 j
      split <;> omega
    · by_cases q : j = i'
      · subst q
        exact Or.inl ⟨pk_us, fun _ => pk_us⟩
      · rw [pk_un q, pk_un q]
        exact r6 j hj
theorem op_bound {th : Int32} {o : Nat → Int64} {w : tk_W} (hI : INV th o w) (i : Int32) : OPl y_L_bound w_L_bound y_M_bound w_M_bound [.ref 0, .int i, .ref 45] [.ref 29, .int i] w := by
  obtain ⟨D, pcc, bd, S1, ch, be, bc, al, st, sp, dn, S2, s, ah, pcm, pl, nw, br, rfl, hR⟩ := hI
  have hD := hR.1
  have hG := hD.G
  have hH := hD.H
  rcases ixc i (n := D.H) (by omega) with hx | ⟨i', hi, rfl⟩
  · exact opl_of (o := o) (wl_bound_1 (m_bound_no (n := D.H) (gn := D.G) hx) rfl rfl) rfl rfl (r_bound_1 hD hx) ⟨D, pcc, bd, S1, ch, be, bc, al, st, sp, dn, S2, s, ah, pcm, pl, nw, br, rfl, hR⟩ (fun q => absurd q (by decide))
  have hC := m_bound_yes (n := D.H) (gn := D.G) (gk := nN D.K) (gc := nN D.C) (gs := nN D.S) (gl := nN D.L) (ga := nN D.A) (gb := nN D.B) (lo := nN D.LE) (hi := nN D.GR) (ls := nN D.HL) (hs := nN D.HU) (mb := nN D.MO) (pc := pcc) (bd := bd) (p := (S1, ch, be, bc, al, st, sp, dn)) (c := (S2, s, ah)) (t := md th (nI D.G) (nN D.K) (nN D.C) (nN D.S) (nN D.L) (nN D.A) (nN D.B) (nI D.H) (nN D.LE) (nN D.GR) (nN D.MO) (nN D.HL) (nN D.HU) pcm pl dn sp st nw br o) hi (by omega) (by omega)
  have e : bdF (nI D.G, nN D.K, nN D.C, nN D.S, nN D.L, nN D.A, nN D.B) (nN D.LE i') D.G = bv D i' (bst D D.G) := bdF_bst hD D.G (Nat.le_refl _)
  rw [e] at hC
  cases hb : bst D D.G with
  | none =>
    rw [hb] at hC
    have hC2 : tk_M y_CP_bound w_CP_bound 10 1 6 [.ref 0, .int (nI i')] _ (tk_det (.inr eU) _) := hC
    exact opl_of (o := o) (wl_bound_2 hC2 rfl rfl) rfl rfl (r_bound_2 hD hi hb) ⟨D, pcc, bd, S1, ch, be, bc, al, st, sp, dn, S2, s, ah, pcm, pl, nw, br, rfl, hR⟩ (fun q => absurd q (by decide))
  | some b =>
    have hb1 := (bst_lt D D.G b hb).1
    have hcl := cl_lt hD i' b (hD.K1 b hb1)
    rw [hb, show bv D i' (some b) = lN (cl D i' b) from rfl, if_neg (lN_ne (by omega))] at hC
    exact opl_of (o := vp_updL o 0 (lN (cl D i' b))) (wl_bound_s hC rfl rfl) rfl rfl (r_bound_0 hD hi hb) ⟨D, pcc, bd, S1, ch, be, bc, al, st, sp, dn, S2, s, ah, pcm, pl, nw, br, rfl, hR⟩ (fun _ => updL0)
theorem op_worst {th : Int32} {o : Nat → Int64} {w : tk_W} (hI : INV th o w) (i e d k : Int32) : OPl y_L_worst w_L_worst y_M_worst w_M_worst [.ref 0, .int i, .int e, .int d, .int k, .ref 45] [.ref 29, .int i, .int e, .int d, .int k] w := by
  obtain ⟨D, pcc, bd, S1, ch, be, bc, al, st, sp, dn, S2, s, ah, pcm, pl, nw, br, rfl, hR⟩ := hI
  have hD := hR.1
  have hG := hD.G
  have hH := hD.H
  by_cases hx : (i < 0 ∨ ¬ i < nI D.H) ∨ (e < 0 ∨ ¬ e < 4) ∨ (d < 0 ∨ ¬ d < 2) ∨ (k < 0 ∨ ¬ k < 2)
  · exact opl_of (o := o) (wl_worst_1 (m_worst_no (n := D.H) (gn := D.G) hx) rfl rfl) rfl rfl (r_worst_1 (n := D.H) (by omega) (hx.imp id (fun q => q.imp (fun z => z.imp id th4.mpr) (fun z => z.imp (fun y => y.imp id th2.mpr) (fun y => y.imp id th2.mpr))))) ⟨D, pcc, bd, S1, ch, be, bc, al, st, sp, dn, S2, s, ah, pcm, pl, nw, br, rfl, hR⟩ (fun q => absurd q (by decide))
  obtain ⟨i', hi, rfl⟩ := (ixc i (n := D.H) (by omega)).resolve_left (fun q => hx (Or.inl q))
  obtain ⟨e', he, rfl⟩ := (ixc e (n := 4) (by omega)).resolve_left (fun q => hx (Or.inr (Or.inl q)))
  have h3 : ¬ (d < 0 ∨ ¬ d < 2) := fun q => hx (Or.inr (Or.inr (Or.inl q)))
  have h4 : ¬ (k < 0 ∨ ¬ k < 2) := fun q => hx (Or.inr (Or.inr (Or.inr q)))
  have h3' : ¬ (d < 0 ∨ 1 < d) := fun q => h3 (q.imp id th2.mp)
  have h4' : ¬ (k < 0 ∨ 1 < k) := fun q => h4 (q.imp id th2.mp)
  have hC := m_worst_yes (n := D.H) (gn := D.G) (gk := nN D.K) (gc := nN D.C) (gs := nN D.S) (gl := nN D.L) (ga := nN D.A) (gb := nN D.B) (lo := nN D.LE) (hi := nN D.GR) (ls := nN D.HL) (hs := nN D.HU) (mb := nN D.MO) (pc := pcc) (bd := bd) (p := (S1, ch, be, bc, al, st, sp, dn)) (c := (S2, s, ah)) (t := md th (nI D.G) (nN D.K) (nN D.C) (nN D.S) (nN D.L) (nN D.A) (nN D.B) (nI D.H) (nN D.LE) (nN D.GR) (nN D.MO) (nN D.HL) (nN D.HU) pcm pl dn sp st nw br o) (d := d) (k := k) hi (by omega) (by omega) he h3 h4
  rcases pln_at (j := i') hR.2.2.2.2.2 hi hH with ⟨q1, q2⟩ | ⟨q1, q2, q4, P, q3⟩
  · rw [if_pos q2] at hC
    exact opl_of (o := o) (wl_worst_2 hC rfl rfl) rfl rfl (r_worst_2 (n := D.H) (G := D.G) (by omega) (by omega) hi he h3' h4' q1) ⟨D, pcc, bd, S1, ch, be, bc, al, st, sp, dn, S2, s, ah, pcm, pl, nw, br, rfl, hR⟩ (fun q => absurd q (by decide))
  rw [if_neg q2] at hC
  have b1 : ∀ j, j < D.G → P j ≤ 6 ∧ bd (i' * 5 + j) = nI (P j) := fun j hj => ⟨(q3 j (by omega)).1, (q3 j (by omega)).2.1⟩
  have b2 : ∀ j, j < D.G → P j ≤ 6 ∧ pl (i' * 5 + j) = nI (P j) := fun j hj => ⟨(q3 j (by omega)).1, by rw [Nat.mul_comm i' 5]; exact (q3 j (by omega)).2.2⟩
  have hP6 : ∀ j, j < D.G → P j ≤ 6 := fun j hj => (b1 j hj).1
  have p1 := pkl_n hD b1 D.G (Nat.le_refl _)
  have p2 := pkl_n hD b2 D.G (Nat.le_refl _)
  have bK := bd_K hD hG hP6
  rw [p1] at hC
  by_cases h0 : sN P D.K D.G = 0
  · rw [h0, if_pos (show lN 0 ≤ 0 from by decide)] at hC
    rw [h0] at p2
    exact opl_of (o := o) (wl_worst_3 hC rfl rfl) rfl rfl (r_worst_3 (n := D.H) (G := D.G) (by omega) (by omega) hi he h3' h4' q1 p2) ⟨D, pcc, bd, S1, ch, be, bc, al, st, sp, dn, S2, s, ah, pcm, pl, nw, br, rfl, hR⟩ (fun q => absurd q (by decide))
  rw [if_neg (fun z => h0 (by have := (pk_lLE (a := sN P D.K D.G) (b := 0) (by omega) (by decide)).mp z; omega))] at hC
  have es : (if d = 0 then nN D.A else nN D.B) = nN (if d = 0 then D.A else D.B) := by split <;> rfl
  have hs : ∀ j, (if d = 0 then D.A else D.B) j ≤ 10000 := fun j => by
    split
    · exact hD.A j
    · exact hD.B j
  have s1 := psh_n (sh := if d = 0 then D.A else D.B) (e := e') hD hs b1 D.G (Nat.le_refl _)
  have s2 := psh_n (sh := if d = 0 then D.A else D.B) (e := e') hD hs b2 D.G (Nat.le_refl _)
  have bS : s3 P D.K (if d = 0 then D.A else D.B) e' D.G ≤ 300000000 := by
    by_cases q : d = 0
    · rw [if_pos q]; exact bd_A hD hG hP6
    · rw [if_neg q]; exact bd_B hD hG hP6
  rw [es, s1, cdv_gcd (by omega) (by omega) (by omega)] at hC
  rw [← es] at s2
  generalize ha : s3 P D.K (if d = 0 then D.A else D.B) e' D.G = a at *
  generalize hb : sN P D.K D.G = b at *
  have hg0 : 0 < Nat.gcd a b := Nat.gcd_pos_of_pos_right a (by omega)
  have hgl : Nat.gcd a b ≤ b := Nat.gcd_le_right a (by omega)
  have ev : (if k = 0 then lN a else lN b) / lN (Nat.gcd a b) = lN ((if k = 0 then a else b) / Nat.gcd a b) := by
    by_cases q : k = 0
    · rw [if_pos q, if_pos q, pk_lDiv (by omega) hg0 (by omega)]
    · rw [if_neg q, if_neg q, pk_lDiv (by omega) hg0 (by omega)]
  rw [ev] at hC
  exact opl_of (o := vp_updL o 0 (lN ((if k = 0 then a else b) / Nat.gcd a b))) (wl_worst_s hC rfl rfl) rfl rfl (r_worst_0 (n := D.H) (G := D.G) (by omega) (by omega) hi he h3' h4' q1 p2 s2 (by omega) (by omega) (by omega)) ⟨D, pcc, bd, S1, ch, be, bc, al, st, sp, dn, S2, s, ah, pcm, pl, nw, br, rfl, hR⟩ (fun _ => updL0)
theorem op_clash {th : Int32} {o : Nat → Int64} {w : tk_W} (hI : INV th o w) (i : Int32) : OPi y_L_clash w_L_clash y_M_clash w_M_clash [.ref 0, .int i, .ref 45] [.ref 29, .int i] w := by
  obtain ⟨D, pcc, bd, S1, ch, be, bc, al, st, sp, dn, ⟨sn, sr, sb, f⟩, s, ah, pcm, pl, nw, br, rfl, hR⟩ := hI
  have hD := hR.1
  have hG := hD.G
  have hH := hD.H
  rcases ixc i (n := D.H) (by omega) with hx | ⟨i', hi, rfl⟩
  · exact opi_of (o := o) (wl_clash_1 (m_clash_no (n := D.H) (gn := D.G) hx) rfl rfl) rfl rfl (r_clash_1 (n := D.H) (by omega) hx) ⟨D, pcc, bd, S1, ch, be, bc, al, st, sp, dn, (sn, sr, sb, f), s, ah, pcm, pl, nw, br, rfl, hR⟩ (fun q => absurd q (by decide))
  have hC := m_clash_ok (n := D.H) (gn := D.G) (gk := nN D.K) (gc := nN D.C) (gs := nN D.S) (gl := nN D.L) (ga := nN D.A) (gb := nN D.B) (lo := nN D.LE) (hi := nN D.GR) (ls := nN D.HL) (hs := nN D.HU) (mb := nN D.MO) (pc := pcc) (bd := bd) (p := (S1, ch, be, bc, al, st, sp, dn)) (sn := sn) (sr := sr) (sb := sb) (f := f) (s := s) (ah := ah) (R := D.R) (t := md th (nI D.G) (nN D.K) (nN D.C) (nN D.S) (nN D.L) (nN D.A) (nN D.B) (nI D.H) (nN D.LE) (nN D.GR) (nN D.MO) (nN D.HL) (nN D.HU) pcm pl dn sp st nw br o) (i := i') (by omega) hi (by omega) (fun k hk => ⟨ok_rmin hD k (c := nN D.K), by have := hD.R k; omega⟩)
  generalize hX : fndW D.G (nN D.K, nN D.C, nN D.S, nN D.L, nN D.A, nN D.B) (nI D.H, nN D.LE, nN D.GR, nN D.HL, nN D.HU, nN D.MO, pcc, bd) D.R i' sb f s = X at hC
  refine ⟨0, _, wl_clash_s hC rfl rfl, rfl, ⟨_, rfl⟩, _, r_clash_0 (pcc := pcc) (bdc := bd) (sb0 := sb) (f := f) (s := s) (gt := (nN D.K, nN D.C, nN D.S, nN D.L, nN D.A, nN D.B)) hD hi hR.2.2.1 rfl hX, ?_⟩
  rintro r w2 ⟨br', nw', rfl, rfl, hz⟩
  exact ⟨_, rfl, vp_updL o 0 _, ⟨D, pcc, bd, S1, ch, be, bc, al, st, sp, dn, (_, _, _, X.1), X.2.1, X.2.2, pcm, pl, nw', br', rfl, hD, hR.2.1, hz, hR.2.2.2⟩, fun _ => updL0⟩
theorem op_plan {th : Int32} {o : Nat → Int64} {w : tk_W} (hI : INV th o w) (i a : Int32) : OPi y_L_plan w_L_plan y_M_plan w_M_plan [.ref 0, .int i, .int a, .ref 45] [.ref 29, .int i, .int a] w := by
  obtain ⟨D, pcc, bd, ⟨sn, sr, sb, f⟩, ch, be, bc, al, st, sp, dn, S2, s, ah, pcm, pl, nw, br, rfl, hR⟩ := hI
  have hD := hR.1
  have hG := hD.G
  have hH := hD.H
  rcases ixc i (n := D.H) (by omega) with hx | ⟨i', hi, rfl⟩
  · exact opi_of (o := o) (wl_plan_1 (m_plan_no (n := D.H) (gn := D.G) hx) rfl rfl) rfl rfl (r_plan_1 (n := D.H) (by omega) hx) ⟨D, pcc, bd, (sn, sr, sb, f), ch, be, bc, al, st, sp, dn, S2, s, ah, pcm, pl, nw, br, rfl, hR⟩ (fun q => absurd q (by decide))
  by_cases hb : a < 0 ∨ 100000 < a
  · exact opi_of (o := o) (wl_plan_2 (m_plan_bad (n := D.H) (gn := D.G) hi (by omega) hb) rfl rfl) rfl rfl (r_plan_2 (n := D.H) (by omega) hi hb) ⟨D, pcc, bd, (sn, sr, sb, f), ch, be, bc, al, st, sp, dn, S2, s, ah, pcm, pl, nw, br, rfl, hR⟩ (fun q => absurd q (by decide))
  obtain ⟨a', la, ua, rfl⟩ := rng 0 100000 (by decide) (by decide) hb
  generalize hX : plX (gD D) (hHt D pcc bd) D.G D.R i' (nI a') sb f ch be = X
  have hC := m_plan_ok (n := D.H) (gn := D.G) (gk := nN D.K) (gc := nN D.C) (gs := nN D.S) (gl := nN D.L) (ga := nN D.A) (gb := nN D.B) (lo := nN D.LE) (hi := nN D.GR) (ls := nN D.HL) (hs := nN D.HU) (mb := nN D.MO) (pc := pcc) (bd := bd) (sn := sn) (sr := sr) (sb := sb) (f := f) (ch := ch) (be := be) (q := (bc, al, st, sp, dn)) (c := (S2, s, ah)) (R := D.R) (t := md th (nI D.G) (nN D.K) (nN D.C) (nN D.S) (nN D.L) (nN D.A) (nN D.B) (nI D.H) (nN D.LE) (nN D.GR) (nN D.MO) (nN D.HL) (nN D.HU) pcm pl dn sp st nw br o) (i := i') (a := nI a') (X := X) (by omega) hi (by omega) hb (fun k hk => ⟨ok_rmin hD k (c := nN D.K), by have := hD.R k; omega⟩) hX
  refine ⟨0, _, wl_plan_s hC rfl rfl, rfl, ⟨_, rfl⟩, _, r_plan_0 (pcc := pcc) (bdc := bd) (sb0 := sb) (f := f) (ch := ch) (be := be) (X := X) hD hi ua hR.2.1 hR.2.2.2.1 hX, ?_⟩
  rintro r w2 ⟨nw', rfl, rfl, hg, hs⟩
  refine ⟨_, rfl, vp_updL o 0 _, ⟨D, upd pcc i' X.2.2.2.1, cpf bd X.2.2.1 (i' * 5) 5, (_, _, _, X.1), X.2.1, X.2.2.1, X.2.2.2.1, _, X.2.2.2.2.1, X.2.2.2.2.2, 1, S2, s, ah, upd pcm i' X.2.2.2.1, plf pl i' X, nw', br, rfl, hD, hg.1, hR.2.2.1, hg.2.1, Or.inr rfl, fun j hj => ?_⟩, fun _ => updL0⟩
  by_cases q : j = i'
  · subst q
    rw [pk_us, pk_us]
    rcases hg.2.2.1 with z | ⟨⟨b, b1, b2⟩, b3⟩
    · exact Or.inl ⟨z, fun _ => z⟩
    · have hne : ¬ X.2.2.2.1 = -1 := by rw [b2]; exact nI_m1 (by omega)
      refine Or.inr ⟨hi, b, b1, b2, b2, fun t => (X.2.2.1 t).toNatClampNeg, fun t ht => ?_⟩
      obtain ⟨w, w1, w2⟩ := b3 t ht
      show (X.2.2.1 t).toNatClampNeg ≤ 6 ∧ cpf bd X.2.2.1 (j * 5) 5 (j * 5 + t) = nI (X.2.2.1 t).toNatClampNeg ∧ plf pl j X (5 * j + t) = nI (X.2.2.1 t).toNatClampNeg
      have e1 : cpf bd X.2.2.1 (j * 5) 5 (j * 5 + t) = X.2.2.1 t := by
        simp only [cpf]; rw [if_pos (by omega), show j * 5 + t - j * 5 = t by omega]
      have e2 : plf pl j X (5 * j + t) = X.2.2.1 t := by
        simp only [plf]; rw [if_neg hne]; simp only [cpf]; rw [if_pos (by omega), show 5 * j + t - 5 * j = t by omega]
      rw [e1, e2, w2, nI_clamp (by omega)]
      exact ⟨w1, rfl, rfl⟩
  · rw [pk_un q, pk_un q]
    rcases hR.2.2.2.2.2 j hj with z | ⟨z1, b, b1, b2, b3, P, b4⟩
    · exact Or.inl z
    · refine Or.inr ⟨z1, b, b1, b2, b3, P, fun t ht => ?_⟩
      obtain ⟨c1, c2, c3⟩ := b4 t ht
      have e1 : cpf bd X.2.2.1 (i' * 5) 5 (j * 5 + t) = bd (j * 5 + t) := by
        simp only [cpf]; rw [if_neg (by omega)]
      have e2 : plf pl i' X (5 * j + t) = pl (5 * j + t) := by
        simp only [plf]; split
        · rfl
        · simp only [cpf]; rw [if_neg (by omega)]
      rw [e1, e2]; exact ⟨c1, c2, c3⟩
