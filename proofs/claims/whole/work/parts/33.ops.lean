/-! ===== the calls, one by one: setters and askers ===== -/
theorem op_element {th : Int32} {o : Nat → Int64} {w : tk_W} (hI : INV th o w) (i e a b : Int32) : OPv y_L_element w_L_element y_M_element w_M_element [.ref 0, .int i, .int e, .int a, .int b] [.ref 29, .int i, .int e, .int a, .int b] w := by
  obtain ⟨⟨G, K, C, S, L, A, B, H, LE, GR, HL, HU, MO⟩, pcc, bd, S1, ch, be, bc, al, st, sp, dn, S2, s, ah, pcm, pl, nw, br, rfl, hR⟩ := hI
  have hG : G ≤ 5 := hR.1.G
  by_cases hx : (i < 0 ∨ ¬ i < nI G) ∨ (e < 0 ∨ ¬ e < 4)
  · exact opv_of (o := o) (wl_element_1 (m_element_no (n := G) hx) rfl rfl) rfl rfl (r_element_1 (n := G) (by omega) (hx.imp id (fun q => q.imp id th4.mpr))) ⟨_, pcc, bd, S1, ch, be, bc, al, st, sp, dn, S2, s, ah, pcm, pl, nw, br, rfl, hR⟩
  obtain ⟨i', hi, rfl⟩ := (ixc i (n := G) (by omega)).resolve_left (fun q => hx (Or.inl q))
  obtain ⟨e', he, rfl⟩ := (ixc e (n := 4) (by omega)).resolve_left (fun q => hx (Or.inr q))
  by_cases hb : (a < 0 ∨ 10000 < a) ∨ (b < a ∨ 10000 < b)
  · exact opv_of (o := o) (wl_element_2 (m_element_bad (n := G) hi (by omega) he hb) rfl rfl) rfl rfl (r_element_2 (n := G) (by omega) hi he hb) ⟨_, pcc, bd, S1, ch, be, bc, al, st, sp, dn, S2, s, ah, pcm, pl, nw, br, rfl, hR⟩
  have h1 : ¬ (a < 0 ∨ 10000 < a) := fun q => hb (Or.inl q)
  have h2 : ¬ (b < a ∨ 10000 < b) := fun q => hb (Or.inr q)
  obtain ⟨a', la, ua, rfl⟩ := rng 0 10000 (by decide) (by decide) h1
  obtain ⟨b', lb, ub, rfl⟩ := rng a' 10000 (by decide) ua h2
  refine opv_of (o := o) (wl_element_r (m_element_ok (n := G) hi (by omega) he (fun q => h1 (Or.inl q)) (fun q => h1 (Or.inr q)) (fun q => h2 (Or.inl q)) (fun q => h2 (Or.inr q))) rfl rfl) rfl rfl (r_element_0 (n := G) (by omega) hi he h1 h2) ⟨(G, K, C, S, L, uN A (4 * i' + e') a', uN B (4 * i' + e') b', H, LE, GR, HL, HU, MO), pcc, bd, S1, ch, be, bc, al, st, sp, dn, S2, s, ah, pcm, pl, nw, br, ?_, ?_⟩
  · show _ = wd (nI G, nN K, nN C, nN S, nN L, nN (uN A (4 * i' + e') a'), nN (uN B (4 * i' + e') b')) (hHt (G, K, C, S, L, A, B, H, LE, GR, HL, HU, MO) pcc bd) (S1, ch, be, bc, al, st, sp, dn) (S2, s, ah) (md 0 (nI G) (nN K) (nN C) (nN S) (nN L) (nN (uN A (4 * i' + e') a')) (nN (uN B (4 * i' + e') b')) (nI H) (nN LE) (nN GR) (nN MO) (nN HL) (nN HU) pcm pl dn sp st nw br _)
    rw [← nN_u, ← nN_u, Nat.mul_comm i' 4]
  · obtain ⟨⟨g1, g2, g3, g4, g5, g6, g7, g8, g9⟩, r2⟩ := hR
    exact ⟨⟨g1, g2, g3, g4, g5, g6, nN_o g7 ua, nN_o g8 ub, g9⟩, r2⟩
theorem op_limit {th : Int32} {o : Nat → Int64} {w : tk_W} (hI : INV th o w) (i a : Int32) : OPv y_L_limit w_L_limit y_M_limit w_M_limit [.ref 0, .int i, .int a] [.ref 29, .int i, .int a] w := by
  obtain ⟨⟨G, K, C, S, L, A, B, H, LE, GR, HL, HU, MO⟩, pcc, bd, S1, ch, be, bc, al, st, sp, dn, S2, s, ah, pcm, pl, nw, br, rfl, hR⟩ := hI
  have hG : G ≤ 5 := hR.1.G
  rcases ixc i (n := G) (by omega) with hx | ⟨i', hi, rfl⟩
  · exact opv_of (o := o) (wl_limit_1 (m_limit_no (n := G) hx) rfl rfl) rfl rfl (r_limit_1 (n := G) (by omega) hx) ⟨_, pcc, bd, S1, ch, be, bc, al, st, sp, dn, S2, s, ah, pcm, pl, nw, br, rfl, hR⟩
  by_cases hb : a < 0 ∨ 6 < a
  · exact opv_of (o := o) (wl_limit_2 (m_limit_bad (n := G) hi (by omega) hb) rfl rfl) rfl rfl (r_limit_2 (n := G) (by omega) hi hb) ⟨_, pcc, bd, S1, ch, be, bc, al, st, sp, dn, S2, s, ah, pcm, pl, nw, br, rfl, hR⟩
  obtain ⟨a', la, ua, rfl⟩ := rng 0 6 (by decide) (by decide) hb
  refine opv_of (o := o) (wl_limit_r (m_limit_ok (n := G) hi (by omega) hb) rfl rfl) rfl rfl (r_limit_0 (n := G) (by omega) hi hb) ⟨(G, K, C, S, uN L i' a', A, B, H, LE, GR, HL, HU, MO), pcc, bd, S1, ch, be, bc, al, st, sp, dn, S2, s, ah, pcm, pl, nw, br, ?_, ?_⟩
  · show _ = wd (nI G, nN K, nN C, nN S, nN (uN L i' a'), nN A, nN B) (hHt (G, K, C, S, L, A, B, H, LE, GR, HL, HU, MO) pcc bd) (S1, ch, be, bc, al, st, sp, dn) (S2, s, ah) (md 0 (nI G) (nN K) (nN C) (nN S) (nN (uN L i' a')) (nN A) (nN B) (nI H) (nN LE) (nN GR) (nN MO) (nN HL) (nN HU) pcm pl dn sp st nw br _)
    rw [← nN_u]
  · obtain ⟨⟨g1, g2, g3, g4, g5, g6, g7⟩, r2⟩ := hR
    exact ⟨⟨g1, g2, g3, g4, g5, nN_o g6 ua, g7⟩, r2⟩
theorem op_arrive {th : Int32} {o : Nat → Int64} {w : tk_W} (hI : INV th o w) (i a : Int32) : OPi y_L_arrive w_L_arrive y_M_arrive w_M_arrive [.ref 0, .int i, .int a, .ref 45] [.ref 29, .int i, .int a] w := by
  obtain ⟨⟨G, K, C, S, L, A, B, H, LE, GR, HL, HU, MO⟩, pcc, bd, S1, ch, be, bc, al, st, sp, dn, S2, s, ah, pcm, pl, nw, br, rfl, hR⟩ := hI
  have hG : G ≤ 5 := hR.1.G
  rcases ixc i (n := G) (by omega) with hx | ⟨i', hi, rfl⟩
  · exact opi_of (o := o) (wl_arrive_1 (m_arrive_no (n := G) hx) rfl rfl) rfl rfl (r_arrive_1 (n := G) (by omega) hx) ⟨_, pcc, bd, S1, ch, be, bc, al, st, sp, dn, S2, s, ah, pcm, pl, nw, br, rfl, hR⟩ (fun q => absurd q (by decide))
  by_cases ha : a < 0
  · exact opi_of (o := o) (wl_arrive_2 (m_arrive_bad (n := G) hi (by omega) ha) rfl rfl) rfl rfl (r_arrive_2 (n := G) (by omega) hi ha) ⟨_, pcc, bd, S1, ch, be, bc, al, st, sp, dn, S2, s, ah, pcm, pl, nw, br, rfl, hR⟩ (fun q => absurd q (by decide))
  by_cases hb : 6 - nN S i' < a
  · exact opi_of (o := o) (wl_arrive_3 (m_arrive_much (n := G) hi (by omega) ha hb) rfl rfl) rfl rfl (r_arrive_3 (n := G) (by omega) hi ha hb) ⟨_, pcc, bd, S1, ch, be, bc, al, st, sp, dn, S2, s, ah, pcm, pl, nw, br, rfl, hR⟩ (fun q => absurd q (by decide))
  have hS : S i' ≤ 6 := hR.1.S i'
  have hsub : (6 : Int32) - nN S i' = nI (6 - S i') := pk_sub hS
  obtain ⟨a', la, ua, rfl⟩ := rng (x := a) 0 (6 - S i') (by omega) (by omega) (by rw [hsub] at hb; exact fun q => q.elim ha hb)
  have hadd : nN S i' + nI a' = nI (S i' + a') := nI_add _ _
  refine opi_of (o := vp_updL o 0 (nN S i' + nI a').toInt64) (wl_arrive_s (m_arrive_ok (n := G) hi (by omega) ha hb) rfl rfl) rfl rfl (r_arrive_0 (n := G) (by omega) hi ha hb) ⟨(G, K, C, uN S i' (S i' + a'), L, A, B, H, LE, GR, HL, HU, MO), pcc, bd, S1, ch, be, bc, al, st, sp, dn, S2, s, ah, pcm, pl, nw, br, ?_, ?_⟩ (fun _ => updL0)
  · show _ = wd (nI G, nN K, nN C, nN (uN S i' (S i' + a')), nN L, nN A, nN B) (hHt (G, K, C, S, L, A, B, H, LE, GR, HL, HU, MO) pcc bd) (S1, ch, be, bc, al, st, sp, dn) (S2, s, ah) (md 0 (nI G) (nN K) (nN C) (nN (uN S i' (S i' + a'))) (nN L) (nN A) (nN B) (nI H) (nN LE) (nN GR) (nN MO) (nN HL) (nN HU) pcm pl dn sp st nw br _)
    rw [← nN_u, ← hadd]
  · obtain ⟨⟨g1, g2, g3, g4, g5, g6⟩, r2⟩ := hR
    exact ⟨⟨g1, g2, g3, g4, nN_o g5 (by omega), g6⟩, r2⟩
theorem op_stock {th : Int32} {o : Nat → Int64} {w : tk_W} (hI : INV th o w) (i : Int32) : OPi y_L_stock w_L_stock y_M_stock w_M_stock [.ref 0, .int i, .ref 45] [.ref 29, .int i] w := by
  obtain ⟨⟨G, K, C, S, L, A, B, H, LE, GR, HL, HU, MO⟩, pcc, bd, S1, ch, be, bc, al, st, sp, dn, S2, s, ah, pcm, pl, nw, br, rfl, hR⟩ := hI
  have hG : G ≤ 5 := hR.1.G
  rcases ixc i (n := G) (by omega) with hx | ⟨i', hi, rfl⟩
  · exact opi_of (o := o) (wl_stock_1 (m_stock_no (n := G) hx) rfl rfl) rfl rfl (r_stock_1 (n := G) (by omega) hx) ⟨_, pcc, bd, S1, ch, be, bc, al, st, sp, dn, S2, s, ah, pcm, pl, nw, br, rfl, hR⟩ (fun q => absurd q (by decide))
  exact opi_of (o := vp_updL o 0 (nN S i').toInt64) (wl_stock_s (m_stock_ok (n := G) hi (by omega)) rfl rfl) rfl rfl (r_stock_0 (n := G) (by omega) hi) ⟨_, pcc, bd, S1, ch, be, bc, al, st, sp, dn, S2, s, ah, pcm, pl, nw, br, rfl, hR⟩ (fun _ => updL0)
theorem op_span {th : Int32} {o : Nat → Int64} {w : tk_W} (hI : INV th o w) (i e a b : Int32) : OPv y_L_span w_L_span y_M_span w_M_span [.ref 0, .int i, .int e, .int a, .int b] [.ref 29, .int i, .int e, .int a, .int b] w := by
  obtain ⟨⟨G, K, C, S, L, A, B, H, LE, GR, HL, HU, MO⟩, pcc, bd, S1, ch, be, bc, al, st, sp, dn, S2, s, ah, pcm, pl, nw, br, rfl, hR⟩ := hI
  have hH : H ≤ 4 := hR.1.H
  by_cases hx : (i < 0 ∨ ¬ i < nI H) ∨ (e < 0 ∨ ¬ e < 4)
  · exact opv_of (o := o) (wl_span_1 (m_span_no (n := H) hx) rfl rfl) rfl rfl (r_span_1 (n := H) (by omega) (hx.imp id (fun q => q.imp id th4.mpr))) ⟨_, pcc, bd, S1, ch, be, bc, al, st, sp, dn, S2, s, ah, pcm, pl, nw, br, rfl, hR⟩
  obtain ⟨i', hi, rfl⟩ := (ixc i (n := H) (by omega)).resolve_left (fun q => hx (Or.inl q))
  obtain ⟨e', he, rfl⟩ := (ixc e (n := 4) (by omega)).resolve_left (fun q => hx (Or.inr q))
  by_cases hb : (a < 0 ∨ 10000 < a) ∨ (b < a ∨ 10000 < b)
  · exact opv_of (o := o) (wl_span_2 (m_span_bad (n := H) hi (by omega) he hb) rfl rfl) rfl rfl (r_span_2 (n := H) (by omega) hi he hb) ⟨_, pcc, bd, S1, ch, be, bc, al, st, sp, dn, S2, s, ah, pcm, pl, nw, br, rfl, hR⟩
  have h1 : ¬ (a < 0 ∨ 10000 < a) := fun q => hb (Or.inl q)
  have h2 : ¬ (b < a ∨ 10000 < b) := fun q => hb (Or.inr q)
  obtain ⟨a', la, ua, rfl⟩ := rng 0 10000 (by decide) (by decide) h1
  obtain ⟨b', lb, ub, rfl⟩ := rng a' 10000 (by decide) ua h2
  refine opv_of (o := o) (wl_span_r (m_span_ok (n := H) hi (by omega) he (fun q => h1 (Or.inl q)) (fun q => h1 (Or.inr q)) (fun q => h2 (Or.inl q)) (fun q => h2 (Or.inr q))) rfl rfl) rfl rfl (r_span_0 (n := H) (by omega) hi he h1 h2) ⟨(G, K, C, S, L, A, B, H, LE, GR, uN HL (4 * i' + e') a', uN HU (4 * i' + e') b', MO), pcc, bd, S1, ch, be, bc, al, st, sp, dn, S2, s, ah, pcm, pl, nw, br, ?_, ?_⟩
  · show _ = wd (gD (G, K, C, S, L, A, B, H, LE, GR, HL, HU, MO)) (nI H, nN LE, nN GR, nN (uN HL (4 * i' + e') a'), nN (uN HU (4 * i' + e') b'), nN MO, pcc, bd) (S1, ch, be, bc, al, st, sp, dn) (S2, s, ah) (md 0 (nI G) (nN K) (nN C) (nN S) (nN L) (nN A) (nN B) (nI H) (nN LE) (nN GR) (nN MO) (nN (uN HL (4 * i' + e') a')) (nN (uN HU (4 * i' + e') b')) pcm pl dn sp st nw br _)
    rw [← nN_u, ← nN_u, Nat.mul_comm i' 4]
  · obtain ⟨⟨g1, g2, g3, g4, g5, g6, g7, g8, g9, g10, g11, g12, g13, g14, g15, g16⟩, r2⟩ := hR
    refine ⟨⟨g1, g2, g3, g4, g5, g6, g7, g8, g9, g10, g11, nN_o g12 ua, nN_o g13 ub, g14, fun j hj => ?_, g16⟩, r2⟩
    show uN HL (4 * i' + e') a' j = 0
    have hj' : 4 * H ≤ j := hj
    simp only [uN]; rw [if_neg (by omega)]; exact g15 j hj
theorem op_most {th : Int32} {o : Nat → Int64} {w : tk_W} (hI : INV th o w) (i a : Int32) : OPv y_L_most w_L_most y_M_most w_M_most [.ref 0, .int i, .int a] [.ref 29, .int i, .int a] w := by
  obtain ⟨⟨G, K, C, S, L, A, B, H, LE, GR, HL, HU, MO⟩, pcc, bd, S1, ch, be, bc, al, st, sp, dn, S2, s, ah, pcm, pl, nw, br, rfl, hR⟩ := hI
  have hH : H ≤ 4 := hR.1.H
  rcases ixc i (n := H) (by omega) with hx | ⟨i', hi, rfl⟩
  · exact opv_of (o := o) (wl_most_1 (m_most_no (n := H) hx) rfl rfl) rfl rfl (r_most_1 (n := H) (by omega) hx) ⟨_, pcc, bd, S1, ch, be, bc, al, st, sp, dn, S2, s, ah, pcm, pl, nw, br, rfl, hR⟩
  by_cases hb : a < 0 ∨ 30 < a
  · exact opv_of (o := o) (wl_most_2 (m_most_bad (n := H) hi (by omega) hb) rfl rfl) rfl rfl (r_most_2 (n := H) (by omega) hi hb) ⟨_, pcc, bd, S1, ch, be, bc, al, st, sp, dn, S2, s, ah, pcm, pl, nw, br, rfl, hR⟩
  obtain ⟨a', la, ua, rfl⟩ := rng 0 30 (by decide) (by decide) hb
  refine opv_of (o := o) (wl_most_r (m_most_ok (n := H) hi (by omega) hb) rfl rfl) rfl rfl (r_most_0 (n := H) (by omega) hi hb) ⟨(G, K, C, S, L, A, B, H, LE, GR, HL, HU, uN MO i' a'), pcc, bd, S1, ch, be, bc, al, st, sp, dn, S2, s, ah, pcm, pl, nw, br, ?_, ?_⟩
  · show _ = wd (gD (G, K, C, S, L, A, B, H, LE, GR, HL, HU, MO)) (nI H, nN LE, nN GR, nN HL, nN HU, nN (uN MO i' a'), pcc, bd) (S1, ch, be, bc, al, st, sp, dn) (S2, s, ah) (md 0 (nI G) (nN K) (nN C) (nN S) (nN L) (nN A) (nN B) (nI H) (nN LE) (nN GR) (nN (uN MO i' a')) (nN HL) (nN HU) pcm pl dn sp st nw br _)
    rw [← nN_u]
  · obtain ⟨⟨g1, g2, g3, g4, g5, g6, g7, g8, g9, g10, g11, g12, g13, g14, g15⟩, r2⟩ := hR
    exact ⟨⟨g1, g2, g3, g4, g5, g6, g7, g8, g9, g10, g11, g12, g13, nN_o g14 ua, g15⟩, r2⟩
/-- a heat's shares, filled -/
def fN (f : Nat → Nat) (b i x : Nat) : Nat → Nat := fun j => if b ≤ j ∧ j < b + i then x else f j
theorem nN_f (f : Nat → Nat) (b i x : Nat) : fil (nN f) b i (nI x) = nN (fN f b i x) := by
  funext j; simp only [fil, nN, fN]; split <;> rfl
theorem op_heat {th : Int32} {o : Nat → Int64} {w : tk_W} (hI : INV th o w) (a b : Int32) : OPi y_L_heat w_L_heat y_M_heat w_M_heat [.ref 0, .int a, .int b, .ref 45] [.ref 29, .int a, .int b] w := by
  obtain ⟨⟨G, K, C, S, L, A, B, H, LE, GR, HL, HU, MO⟩, pcc, bd, S1, ch, be, bc, al, st, sp, dn, S2, s, ah, pcm, pl, nw, br, rfl, hR⟩ := hI
  have hH : H ≤ 4 := hR.1.H
  by_cases hf : H = 4
  · subst hf
    exact opi_of (o := o) (wl_heat_1 m_heat_full rfl rfl) rfl rfl r_heat_1 ⟨_, pcc, bd, S1, ch, be, bc, al, st, sp, dn, S2, s, ah, pcm, pl, nw, br, rfl, hR⟩ (fun q => absurd q (by decide))
  by_cases hb : (a < 1 ∨ 100000 < a) ∨ (b < a ∨ 100000 < b)
  · exact opi_of (o := o) (wl_heat_2 (m_heat_bad (n := H) (by omega) hb) rfl rfl) rfl rfl (r_heat_2 (n := H) (by omega) hb) ⟨_, pcc, bd, S1, ch, be, bc, al, st, sp, dn, S2, s, ah, pcm, pl, nw, br, rfl, hR⟩ (fun q => absurd q (by decide))
  have h1 : ¬ (a < 1 ∨ 100000 < a) := fun q => hb (Or.inl q)
  have h2 : ¬ (b < a ∨ 100000 < b) := fun q => hb (Or.inr q)
  obtain ⟨a', la, ua, rfl⟩ := rng 1 100000 (by decide) (by decide) h1
  obtain ⟨b', lb, ub, rfl⟩ := rng a' 100000 (by decide) ua h2
  obtain ⟨⟨g1, g2, g3, g4, g5, g6, g7, g8, g9, g10, g11, g12, g13, g14, g15, g16⟩, r2, r3, r4, r5, r6⟩ := hR
  have eHL : fil (nN HL) (4 * H) 4 0 = nN HL := by
    funext j; simp only [fil]; split
    · next q => show (0 : Int32) = nI (HL j); rw [show HL j = 0 from g15 j (show 4 * H ≤ j from q.1)]; rfl
    · rfl
  refine opi_of (o := vp_updL o 0 (nI H).toInt64) (wl_heat_s (m_heat_ok (n := H) (by omega) (fun q => h1 (Or.inl q)) (fun q => h1 (Or.inr q)) (fun q => h2 (Or.inl q)) (fun q => h2 (Or.inr q))) rfl rfl) rfl rfl (r_heat_0 (n := H) (by omega) h1 h2) ⟨(G, K, C, S, L, A, B, H + 1, uN LE H a', uN GR H b', HL, fN HU (4 * H) 4 10000, uN MO H 30), upd pcc H (-1), bd, S1, ch, be, bc, al, st, sp, dn, S2, s, ah, pcm, pl, nw, br, ?_, ?_⟩ (fun _ => updL0)
  · show _ = wd (gD (G, K, C, S, L, A, B, H, LE, GR, HL, HU, MO)) (nI (H + 1), nN (uN LE H a'), nN (uN GR H b'), nN HL, nN (fN HU (4 * H) 4 10000), nN (uN MO H 30), upd pcc H (-1), bd) (S1, ch, be, bc, al, st, sp, dn) (S2, s, ah) (md 0 (nI G) (nN K) (nN C) (nN S) (nN L) (nN A) (nN B) (nI (H + 1)) (nN (uN LE H a')) (nN (uN GR H b')) (nN (uN MO H 30)) (nN HL) (nN (fN HU (4 * H) 4 10000)) pcm pl dn sp st nw br _)
    rw [← nN_u, ← nN_u, ← nN_u, ← nN_f, eHL, Nat.mul_comm H 4]
    rfl
  · refine ⟨⟨g1, g2, g3, g4, g5, g6, g7, g8, by show H + 1 ≤ 4; omega, nN_o g10 ua, nN_o g11 ub, g12, fun j => ?_, nN_o g14 (Nat.le_refl _), fun j hj => g15 j (by have : 4 * (H + 1) ≤ j := hj; show 4 * H ≤ j; omega), fun j hj => ?_⟩, r2, r3, r4, r5, fun j hj => ?_⟩
    · show fN HU (4 * H) 4 10000 j ≤ 10000
      simp only [fN]; split
      · exact Nat.le_refl _
      · exact g13 j
    · show 1 ≤ uN LE H a' j
      by_cases q : j = H
      · rw [q, uN_eq]; exact la
      · have : j < H + 1 := hj
        rw [uN_lt (by omega)]; exact g16 j (show j < H by omega)
    · show (pcm j = -1 ∧ (j < H + 1 → upd pcc H (-1) j = -1)) ∨ (j < H + 1 ∧ ∃ b, b ≤ 3000000 ∧ pcm j = nI b ∧ upd pcc H (-1) j = nI b ∧ ∃ P : Nat → Nat, ∀ i, i < 5 → P i ≤ 6 ∧ bd (j * 5 + i) = nI (P i) ∧ pl (5 * j + i) = nI (P i))
      rcases r6 j hj with ⟨q1, q2⟩ | ⟨q1, q2⟩
      · refine Or.inl ⟨q1, fun hj2 => ?_⟩
        by_cases q : j = H
        · rw [q, pk_us]
        · rw [pk_un q]; exact q2 (show j < H by omega)
      · have q1' : j < H := q1
        refine Or.inr ⟨by omega, ?_⟩
        rw [pk_un (by omega)]; exact q2
theorem op_planned {th : Int32} {o : Nat → Int64} {w : tk_W} (hI : INV th o w) (a : Int32) : OPi y_L_planned w_L_planned y_M_planned w_M_planned [.ref 0, .int a, .ref 45] [.ref 29, .int a] w := by
  obtain ⟨D, pcc, bd, S1, ch, be, bc, al, st, sp, dn, S2, s, ah, pcm, pl, nw, br, rfl, hR⟩ := hI
  by_cases hx : a < 0 ∨ ¬ a < 2
  · exact opi_of (o := o) (wl_planned_1 (m_planned_no hx) rfl rfl) rfl rfl (r_planned_1 (hx.imp id th2.mpr)) ⟨D, pcc, bd, S1, ch, be, bc, al, st, sp, dn, S2, s, ah, pcm, pl, nw, br, rfl, hR⟩ (fun q => absurd q (by decide))
  have h0 : ¬ a < 0 := fun q => hx (Or.inl q)
  have h1 : a < 2 := Decidable.byContradiction (fun q => hx (Or.inr q))
  have h2 : ¬ (a < 0 ∨ 1 < a) := fun q => hx (q.imp id th2.mp)
  rcases hR.2.2.2.2.1 with rfl | rfl
  · exact opi_of (o := o) (wl_planned_2 (m_planned_turn h0 h1) rfl rfl) rfl rfl (r_planned_2 h2) ⟨D, pcc, bd, S1, ch, be, bc, al, st, sp, 0, S2, s, ah, pcm, pl, nw, br, rfl, hR⟩ (fun q => absurd q (by decide))
  · exact opi_of (o := vp_updL o 0 (if a = 1 then st else if sp = 0 then 0 else 1 : Int32).toInt64) (wl_planned_s (m_planned_ok h0 h1) rfl rfl) rfl rfl (r_planned_0 h2) ⟨D, pcc, bd, S1, ch, be, bc, al, st, sp, 1, S2, s, ah, pcm, pl, nw, br, rfl, hR⟩ (fun _ => updL0)
/-- a heat's plan: there is none, or both have it -/
theorem pln_at {D : Dt} {pcc bd pcm pl : Ar} (h : PLN D pcc bd pcm pl) {j : Nat} (hj : j < D.H) (hH : D.H ≤ 4) : (pcm j < 0 ∧ pcc j = -1) ∨ (¬ pcm j < 0 ∧ ¬ pcc j = -1 ∧ pcm j = pcc j ∧ ∃ P : Nat → Nat, ∀ i, i < 5 → P i ≤ 6 ∧ bd (j * 5 + i) = nI (P i) ∧ pl (5 * j + i) = nI (P i)) := by
  rcases h j (by omega) with ⟨q1, q2⟩ | ⟨-, b, b1, b2, b3, b4⟩
  · exact Or.inl ⟨by rw [q1]; decide, q2 hj⟩
  · exact Or.inr ⟨by rw [b2]; exact nI_pos (by omega), by rw [b3]; exact nI_m1 (by omega), by rw [b2, b3], b4⟩
theorem op_amount {th : Int32} {o : Nat → Int64} {w : tk_W} (hI : INV th o w) (i k : Int32) : OPi y_L_amount w_L_amount y_M_amount w_M_amount [.ref 0, .int i, .int k, .ref 45] [.ref 29, .int i, .int k] w := by
  obtain ⟨D, pcc, bd, S1, ch, be, bc, al, st, sp, dn, S2, s, ah, pcm, pl, nw, br, rfl, hR⟩ := hI
  have hG := hR.1.G
  have hH := hR.1.H
  by_cases hx : (i < 0 ∨ ¬ i < nI D.H) ∨ (k < 0 ∨ ¬ k < nI D.G)
  · exact opi_of (o := o) (wl_amount_1 (m_amount_no (n := D.H) (gn := D.G) hx) rfl rfl) rfl rfl (r_amount_1 (n := D.H) (G := D.G) (by omega) (by omega) hx) ⟨D, pcc, bd, S1, ch, be, bc, al, st, sp, dn, S2, s, ah, pcm, pl, nw, br, rfl, hR⟩ (fun q => absurd q (by decide))
  obtain ⟨i', hi, rfl⟩ := (ixc i (n := D.H) (by omega)).resolve_left (fun q => hx (Or.inl q))
  obtain ⟨k', hk, rfl⟩ := (ixc k (n := D.G) (by omega)).resolve_left (fun q => hx (Or.inr q))
  rcases pln_at hR.2.2.2.2.2 hi hH with ⟨q1, q2⟩ | ⟨q1, q2, -, P, q3⟩
  · exact opi_of (o := o) (wl_amount_2 (m_amount_turn (n := D.H) (gn := D.G) hi (by omega) hk (by omega) q2) rfl rfl) rfl rfl (r_amount_2 (n := D.H) (G := D.G) (by omega) (by omega) hi hk q1) ⟨D, pcc, bd, S1, ch, be, bc, al, st, sp, dn, S2, s, ah, pcm, pl, nw, br, rfl, hR⟩ (fun q => absurd q (by decide))
  · refine opi_of (o := vp_updL o 0 (bd (i' * 5 + k')).toInt64) (wl_amount_s (m_amount_ok (n := D.H) (gn := D.G) hi (by omega) hk (by omega) q2) rfl rfl) rfl rfl (r_amount_0 (n := D.H) (G := D.G) (by omega) (by omega) hi hk q1) ⟨D, pcc, bd, S1, ch, be, bc, al, st, sp, dn, S2, s, ah, pcm, pl, nw, br, rfl, hR⟩ (fun _ => ?_)
    rw [updL0, (q3 k' (by omega)).2.1, (q3 k' (by omega)).2.2]
