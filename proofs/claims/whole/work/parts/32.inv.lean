/-! ===== what holds between two calls of the law ===== -/
def PLN (D : Dt) (pcc bd pcm pl : Ar) : Prop := ∀ j, j < 4 → (pcm j = -1 ∧ (j < D.H → pcc j = -1)) ∨ (j < D.H ∧ ∃ b, b ≤ 3000000 ∧ pcm j = nI b ∧ pcc j = nI b ∧ ∃ P : Nat → Nat, ∀ i, i < 5 → P i ≤ 6 ∧ bd (j * 5 + i) = nI (P i) ∧ pl (5 * j + i) = nI (P i))
def REL (D : Dt) (pcc bd : Ar) (S1 : sS) (ch : Ar) (dn : Int32) (S2 : sS) (pcm pl : Ar) : Prop := D.ok ∧ Zr S1.2.2.2 ∧ Zr S2.2.2.2 ∧ (∀ j, D.G ≤ j → ch j = 0) ∧ (dn = 0 ∨ dn = 1) ∧ PLN D pcc bd pcm pl
abbrev iW (D : Dt) (pcc bd : Ar) (S1 : sS) (ch be : Ar) (bc al st sp dn : Int32) (S2 : sS) (s : Nat → Int64) (ah th : Int32) (pcm pl nw br : Ar) (o : Nat → Int64) : tk_W :=
  wd (gD D) (hHt D pcc bd) (S1, ch, be, bc, al, st, sp, dn) (S2, s, ah) (md th (nI D.G) (nN D.K) (nN D.C) (nN D.S) (nN D.L) (nN D.A) (nN D.B) (nI D.H) (nN D.LE) (nN D.GR) (nN D.MO) (nN D.HL) (nN D.HU) pcm pl dn sp st nw br o)
def INV (th : Int32) (o : Nat → Int64) (w : tk_W) : Prop := ∃ (D : Dt) (pcc bd : Ar) (S1 : sS) (ch be : Ar) (bc al st sp dn : Int32) (S2 : sS) (s : Nat → Int64) (ah : Int32) (pcm pl nw br : Ar), w = iW D pcc bd S1 ch be bc al st sp dn S2 s ah th pcm pl nw br o ∧ REL D pcc bd S1 ch dn S2 pcm pl
def OPi (yL : MethodName) (cL : Cond) (yM : MethodName) (cM : Cond) (asL asM : List Value) (w : tk_W) : Prop :=
  ∃ (k : Int32) (w1 : tk_W), tk_M yL cL 11 1 6 asL w (tk_det (.inl (some (.int k))) w1) ∧ w1.length = 46 ∧ (∃ F, w1[29]? = some (.inr (6, F))) ∧ ∃ Q2 : tk_R → tk_W → Prop, tk_M yM cM 10 0 0 asM w1 Q2 ∧ ∀ r w2, Q2 r w2 → ∃ v : Int32, r = .inl (some (.int v)) ∧ ∃ o, INV k o w2 ∧ (k = 0 → o 0 = v.toInt64)
def OPl (yL : MethodName) (cL : Cond) (yM : MethodName) (cM : Cond) (asL asM : List Value) (w : tk_W) : Prop :=
  ∃ (k : Int32) (w1 : tk_W), tk_M yL cL 11 1 6 asL w (tk_det (.inl (some (.int k))) w1) ∧ w1.length = 46 ∧ (∃ F, w1[29]? = some (.inr (6, F))) ∧ ∃ Q2 : tk_R → tk_W → Prop, tk_M yM cM 10 0 0 asM w1 Q2 ∧ ∀ r w2, Q2 r w2 → ∃ v : Int64, r = .inl (some (.long v)) ∧ ∃ o, INV k o w2 ∧ (k = 0 → o 0 = v)
def OPv (yL : MethodName) (cL : Cond) (yM : MethodName) (cM : Cond) (asL asM : List Value) (w : tk_W) : Prop :=
  ∃ (k : Int32) (w1 : tk_W), tk_M yL cL 11 1 6 asL w (tk_det (.inl (some (.int k))) w1) ∧ w1.length = 46 ∧ (∃ F, w1[29]? = some (.inr (6, F))) ∧ ∃ Q2 : tk_R → tk_W → Prop, tk_M yM cM 10 0 0 asM w1 Q2 ∧ ∀ r w2, Q2 r w2 → r = .inl none ∧ ∃ o, INV k o w2
section OPS
variable {yL : MethodName} {cL : Cond} {yM : MethodName} {cM : Cond} {asL asM : List Value} {w w1 w2 : tk_W} {k v : Int32} {x : Int64} {F : List Value} {o : Nat → Int64}
theorem opi_of (hL : tk_M yL cL 11 1 6 asL w (tk_det (.inl (some (.int k))) w1)) (hl : w1.length = 46) (h29 : w1[29]? = some (.inr (6, F))) (hM : tk_M yM cM 10 0 0 asM w1 (tk_det (.inl (some (.int v))) w2)) (hI : INV k o w2) (hk : k = 0 → o 0 = v.toInt64) : OPi yL cL yM cM asL asM w :=
  ⟨k, w1, hL, hl, ⟨F, h29⟩, _, hM, fun _ _ q => ⟨v, q.1, o, by rw [q.2]; exact hI, hk⟩⟩
theorem opl_of (hL : tk_M yL cL 11 1 6 asL w (tk_det (.inl (some (.int k))) w1)) (hl : w1.length = 46) (h29 : w1[29]? = some (.inr (6, F))) (hM : tk_M yM cM 10 0 0 asM w1 (tk_det (.inl (some (.long x))) w2)) (hI : INV k o w2) (hk : k = 0 → o 0 = x) : OPl yL cL yM cM asL asM w :=
  ⟨k, w1, hL, hl, ⟨F, h29⟩, _, hM, fun _ _ q => ⟨x, q.1, o, by rw [q.2]; exact hI, hk⟩⟩
theorem opv_of (hL : tk_M yL cL 11 1 6 asL w (tk_det (.inl (some (.int k))) w1)) (hl : w1.length = 46) (h29 : w1[29]? = some (.inr (6, F))) (hM : tk_M yM cM 10 0 0 asM w1 (tk_det (.inl none) w2)) (hI : INV k o w2) : OPv yL cL yM cM asL asM w :=
  ⟨k, w1, hL, hl, ⟨F, h29⟩, _, hM, fun _ _ q => ⟨q.1, o, by rw [q.2]; exact hI⟩⟩
end OPS
theorem rng {x : Int32} (l u : Nat) (hu : u < 2 ^ 31) (hl : l ≤ u) (h : ¬ (x < nI l ∨ nI u < x)) : ∃ k : Nat, l ≤ k ∧ k ≤ u ∧ x = nI k := by
  have h1 : ¬ x < nI l := fun q => h (Or.inl q)
  have h2 : ¬ nI u < x := fun q => h (Or.inr q)
  rw [Int32.lt_iff_toInt_lt, nI_toInt (by omega)] at h1 h2
  have h0 : ¬ x < 0 := by rw [Int32.lt_iff_toInt_lt]; show ¬ x.toInt < 0; omega
  obtain ⟨j, hj, rfl⟩ := nI_of h0
  rw [nI_toInt hj] at h1 h2
  exact ⟨j, by omega, by omega, rfl⟩
theorem ixc (x : Int32) {n : Nat} (hn : n < 100) : (x < 0 ∨ ¬ x < nI n) ∨ ∃ j : Nat, j < n ∧ x = nI j := by
  rcases pk_ix x (n := n) (by omega) with q | q | q
  · exact Or.inl (Or.inl q)
  · refine Or.inl (Or.inr (fun z => ?_))
    rw [Int32.lt_iff_toInt_lt] at z; rw [Int32.le_iff_toInt_le] at q; omega
  · exact Or.inr q
theorem lt_pred {x : Int32} (n : Nat) (hn : n < 100) : nI n < x ↔ ¬ x < nI (n + 1) := by
  rw [Int32.lt_iff_toInt_lt, Int32.lt_iff_toInt_lt, nI_toInt (by omega), nI_toInt (by omega)]
  omega
theorem th4 {e : Int32} : (3 : Int32) < e ↔ ¬ e < 4 := lt_pred 3 (by decide)
theorem th2 {e : Int32} : (1 : Int32) < e ↔ ¬ e < 2 := lt_pred 1 (by decide)
theorem nN_o {f : Nat → Nat} {i x : Nat} {M : Nat} (hf : ∀ j, f j ≤ M) (hx : x ≤ M) : ∀ j, uN f i x j ≤ M := by
  intro j; simp only [uN]; split
  · exact hx
  · exact hf j
theorem updL0 {o : Nat → Int64} {x : Int64} : vp_updL o 0 x 0 = x := pk_uLs
/-! good -/
theorem op_good {th : Int32} {o : Nat → Int64} {w : tk_W} (hI : INV th o w) (a b c : Int32) : OPi y_L_good w_L_good y_M_good w_M_good [.ref 0, .int a, .int b, .int c, .ref 45] [.ref 29, .int a, .int b, .int c] w := by
  obtain ⟨⟨G, K, C, S, L, A, B, H, LE, GR, HL, HU, MO⟩, pcc, bd, S1, ch, be, bc, al, st, sp, dn, S2, s, ah, pcm, pl, nw, br, rfl, hR⟩ := hI
  have hG : G ≤ 5 := hR.1.G
  by_cases hf : G = 5
  · subst hf
    exact opi_of (wl_good_1 m_good_full rfl rfl) rfl rfl r_good_1 ⟨_, pcc, bd, S1, ch, be, bc, al, st, sp, dn, S2, s, ah, pcm, pl, nw, br, rfl, hR⟩ (fun q => absurd q (by decide))
  by_cases hb : (a < 1 ∨ 1000 < a) ∨ (b < 0 ∨ 100000 < b) ∨ (c < 0 ∨ 6 < c)
  · exact opi_of (wl_good_2 (m_good_bad (n := G) (by omega) hb) rfl rfl) rfl rfl (r_good_2 (n := G) (by omega) hb) ⟨_, pcc, bd, S1, ch, be, bc, al, st, sp, dn, S2, s, ah, pcm, pl, nw, br, rfl, hR⟩ (fun q => absurd q (by decide))
  have h1 : ¬ (a < 1 ∨ 1000 < a) := fun q => hb (Or.inl q)
  have h2 : ¬ (b < 0 ∨ 100000 < b) := fun q => hb (Or.inr (Or.inl q))
  have h3 : ¬ (c < 0 ∨ 6 < c) := fun q => hb (Or.inr (Or.inr q))
  obtain ⟨a', la, ua, rfl⟩ := rng 1 1000 (by decide) (by decide) h1
  obtain ⟨b', lb, ub, rfl⟩ := rng 0 100000 (by decide) (by decide) h2
  obtain ⟨c', lc, uc, rfl⟩ := rng 0 6 (by decide) (by decide) h3
  refine opi_of (o := vp_updL o 0 (nI G).toInt64) (wl_good_s (m_good_ok (n := G) (by omega) h1 h2 h3) rfl rfl) rfl rfl (r_good_0 (n := G) (by omega) h1 h2 h3) ⟨(G + 1, uN K G a', uN C G b', uN S G c', uN L G 6, A, B, H, LE, GR, HL, HU, MO), pcc, bd, S1, ch, be, bc, al, st, sp, dn, S2, s, ah, pcm, pl, nw, br, ?_, ?_⟩ (fun _ => updL0)
  · show _ = wd (nI (G + 1), nN (uN K G a'), nN (uN C G b'), nN (uN S G c'), nN (uN L G 6), nN A, nN B) (hHt (G, K, C, S, L, A, B, H, LE, GR, HL, HU, MO) pcc bd) (S1, ch, be, bc, al, st, sp, dn) (S2, s, ah) (md 0 (nI (G + 1)) (nN (uN K G a')) (nN (uN C G b')) (nN (uN S G c')) (nN (uN L G 6)) (nN A) (nN B) (nI H) (nN LE) (nN GR) (nN MO) (nN HL) (nN HU) pcm pl dn sp st nw br _)
    rw [← nN_u, ← nN_u, ← nN_u, ← nN_u]
    rfl
  · obtain ⟨⟨g1, g2, g3, g4, g5, g6, g7⟩, r2, r3, r4, r5, r6⟩ := hR
    refine ⟨⟨by show G + 1 ≤ 5; omega, nN_o g2 ua, fun j hj => ?_, nN_o g4 ub, nN_o g5 uc, nN_o g6 (Nat.le_refl _), g7⟩, r2, r3, fun j hj => r4 j (by show G ≤ j; have : G + 1 ≤ j := hj; omega), r5, r6⟩
    show 1 ≤ uN K G a' j
    by_cases q : j = G
    · rw [q, uN_eq]; exact la
    · have : j < G + 1 := hj
      rw [uN_lt (by omega)]; exact g3 j (show j < G by omega)
