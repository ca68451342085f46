/-! ===== planning: what class and reference keep in step ===== -/
def GP (D : Dt) (a : Nat) (z : sT) : Prop := (∀ c, c < 12 → c ≠ 0 → c ≠ 1 → c ≠ 10 → z.1 c = 0) ∧ (∀ j, D.G ≤ j → z.2.1 j = 0) ∧ (z.2.2.2.1 = -1 ∨ ((∃ b, b ≤ 3000000 ∧ z.2.2.2.1 = nI b) ∧ ∀ j, j < 5 → ∃ w, w ≤ 6 ∧ z.2.2.1 j = nI w)) ∧ (∃ s, s ≤ a ∧ z.2.2.2.2.1 = nI s)
def SP (D : Dt) (ht a k : Nat) (v : Nat → Nat) (z : sT) (nw : Ar) : Prop := GP D a z ∧ (∀ i, i ≤ k → rowOK D ht v i z.1) ∧ (∀ j, j < k → v j ≤ 6 ∧ nw j = nI (v j) ∧ z.2.1 j = nI (v j)) ∧ (∀ j, k ≤ j → j < D.G → nw j = -1)
def LI (D : Dt) (ht a k : Nat) (v : Nat → Nat) (n : Nat) (z : sT) (nw : Ar) : Prop := GP D a z ∧ (∀ i, i ≤ k → rowOK D ht v i z.1) ∧ rowOK D ht (uN v k (n - 1)) (k + 1) z.1 ∧ (∀ j, j < k → v j ≤ 6 ∧ nw j = nI (v j) ∧ z.2.1 j = nI (v j)) ∧ (∀ j, k < j → j < D.G → nw j = -1)
theorem sp_enter {D : Dt} {ht a k : Nat} {v : Nat → Nat} {x : sT} {nw : Ar} (h : SP D ht a k v x nw) : LI D ht a k v 0 (stl x.1 k 12, x.2) nw := by
  obtain ⟨⟨g1, g2, g3, g4⟩, h2, h3, h4⟩ := h
  refine ⟨⟨fun c hc c0 c1 c2 => ?_, g2, g3, g4⟩, fun i hi => row_frame (fun j hj => stl_lt (by omega)) (h2 i hi), row_stl (h2 k (Nat.le_refl _)), h3, fun j hj hj2 => h4 j (by omega) hj2⟩
  show stl x.1 k 12 c = 0
  rw [stl_lt (by omega)]; exact g1 c hc c0 c1 c2
theorem li_try {D : Dt} {ht a k n : Nat} {v : Nat → Nat} {z : sT} {nw sb pc bd : Ar} (hk : k < D.G) (hn : n ≤ 6) (h : LI D ht a k v n z nw) (hs : z.2.2.2.2.1 < nI a) (ha : a ≤ 100000) : SP D ht a (k + 1) (uN v k n) (try1 (pbf (gD D) (hHt D pc bd) ht sb D.G) k n z) (upd nw k (nI n)) := by
  obtain ⟨⟨g1, g2, g3, s, s1, s2⟩, h2, h3, h4, h5⟩ := h
  have fr : ∀ j, j < (k + 1) * 12 → (try1 (pbf (gD D) (hHt D pc bd) ht sb D.G) k n z).1 j = z.1 j := by
    intro j hj
    show (if n = 0 then z.1 else adb z.1 _ k 12) j = z.1 j
    split
    · rfl
    · exact adb_lt hj
  refine ⟨⟨fun c hc c0 c1 c2 => ?_, fun j hj => ?_, g3, s + 1, ?_, ?_⟩, fun i hi => ?_, fun j hj => ?_, fun j hj hj2 => ?_⟩
  · rw [fr c (by omega)]; exact g1 c hc c0 c1 c2
  · show upd z.2.1 k (nI n) j = 0
    rw [pk_un (by omega)]; exact g2 j hj
  · rw [s2] at hs
    have := (nI_ltI (by omega) (by omega)).mp hs
    omega
  · show z.2.2.2.2.1 + 1 = _
    rw [s2, nI_1]
  · rcases Nat.lt_or_ge i (k + 1) with q | q
    · refine row_frame (fun j hj => fr j (by omega)) (row_congr (fun j hj => ?_) (h2 i (by omega)))
      rw [uN_lt (by omega)]
    · obtain rfl : i = k + 1 := by omega
      exact row_try hk h3
  · show uN v k n j ≤ 6 ∧ upd nw k (nI n) j = nI (uN v k n j) ∧ upd z.2.1 k (nI n) j = nI (uN v k n j)
    by_cases q : j = k
    · subst q; rw [uN_eq, pk_us, pk_us]; exact ⟨hn, rfl, rfl⟩
    · rw [uN_lt (by omega), pk_un q, pk_un q]; exact h4 j (by omega)
  · show upd nw k (nI n) j = -1
    rw [pk_un (by omega)]; exact h5 j (by omega) hj2
theorem sp_back {D : Dt} {ht a k n : Nat} {v : Nat → Nat} {z : sT} {nw : Ar} (h : SP D ht a (k + 1) (uN v k n) z nw) : LI D ht a k v (n + 1) z nw ∧ nw k = nI (n + 1) - 1 := by
  obtain ⟨hg, h2, h3, h4⟩ := h
  refine ⟨⟨hg, fun i hi => row_congr (fun j hj => ?_) (h2 i (by omega)), h2 (k + 1) (Nat.le_refl _), fun j hj => ?_, fun j hj hj2 => h4 j (by omega) hj2⟩, ?_⟩
  · exact uN_lt (by omega)
  · have := h3 j (by omega)
    rw [uN_lt hj] at this
    exact this
  · rw [nI_pred, (h3 k (by omega)).2.1, uN_eq]
theorem li_exit {D : Dt} {ht a k n : Nat} {v : Nat → Nat} {z : sT} {nw : Ar} (h : LI D ht a k v n z nw) : SP D ht a k v z (upd nw k (-1)) := by
  obtain ⟨hg, h2, h3, h4, h5⟩ := h
  refine ⟨hg, h2, fun j hj => ?_, fun j hj hj2 => ?_⟩
  · rw [pk_un (by omega)]; exact h4 j hj
  · by_cases q : j = k
    · subst q; exact pk_us
    · rw [pk_un q]; exact h5 j (by omega) hj2
theorem kih_pos {D : Dt} {ht a : Nat} {w : Nat → Nat} {z : sT} {nw : Ar} (hD : D.ok) (h : SP D ht a D.G w z nw) : brk z.1 (D.G * 12) 11 = rbk (vio D ht w) 4 := by
  rw [rbk_vn, brk_n _ _ _ (Nat.le_refl _), row_brn hD (fun j hj => (h.2.2.1 j hj).1) (h.2.1 D.G (Nat.le_refl _))]
theorem sp_kih {D : Dt} {ht a : Nat} {w : Nat → Nat} {z : sT} {nw : Ar} (hD : D.ok) (h : SP D ht a D.G w z nw) : SP D ht a D.G w (kih D.G z) nw := by
  simp only [kih]
  split
  · obtain ⟨⟨g1, g2, g3, g4⟩, h2, h3, h4⟩ := h
    refine ⟨⟨g1, g2, Or.inr ⟨⟨sN w D.C D.G, bd_C hD hD.G (fun j hj => (h3 j hj).1), h2 D.G (Nat.le_refl _) 11 (by decide)⟩, fun j hj => ?_⟩, g4⟩, h2, h3, h4⟩
    show ∃ w, w ≤ 6 ∧ cpf z.2.2.1 z.2.1 0 5 j = nI w
    simp only [cpf]
    rw [if_pos (by omega), show j - 0 = j by omega]
    rcases Nat.lt_or_ge j D.G with q | q
    · exact ⟨w j, (h3 j q).1, (h3 j q).2.2⟩
    · exact ⟨0, by omega, g2 j q⟩
  · exact h
def plf (plx : Ar) (ht : Nat) (z : sT) : Ar := if z.2.2.2.1 = -1 then plx else cpf plx z.2.2.1 (5 * ht) 5
theorem kih_pl {D : Dt} {ht a : Nat} {w : Nat → Nat} {z : sT} {nw plx : Ar} (hD : D.ok) (h : SP D ht a D.G w z nw) (hb : brk z.1 (D.G * 12) 11 = 0) : kpl (plf plx ht z) nw D.G ht 5 = plf plx ht (kih D.G z) ∧ (kih D.G z).2.2.2.1 = nI (sN w D.C D.G) := by
  obtain ⟨⟨g1, g2, g3, g4⟩, h2, h3, h4⟩ := h
  have e11 : (kih D.G z).2.2.2.1 = nI (sN w D.C D.G) := by
    simp only [kih]; rw [if_pos hb]
    exact h2 D.G (Nat.le_refl _) 11 (by decide)
  have bC := bd_C hD hD.G (fun j hj => (h3 j hj).1)
  have hne : ¬ (kih D.G z).2.2.2.1 = -1 := by
    rw [e11]; intro q
    have := congrArg Int32.toInt q
    rw [nI_toInt (by omega)] at this
    have e : (-1 : Int32).toInt = -1 := rfl
    rw [e] at this; omega
  refine ⟨?_, e11⟩
  rw [plf, plf, if_neg hne]
  have eb : (kih D.G z).2.2.1 = cpf z.2.2.1 z.2.1 0 5 := by simp only [kih]; rw [if_pos hb]
  rw [eb]
  funext j
  simp only [kpl, cpf]
  by_cases q : 5 * ht ≤ j ∧ j < 5 * ht + 5
  · rw [if_pos q, if_pos q]
    have q3 : 0 ≤ j - 5 * ht ∧ j - 5 * ht < 0 + 5 := by omega
    by_cases q2 : j - 5 * ht < D.G
    · rw [if_pos q2, if_pos q3, show j - 5 * ht - 0 = j - 5 * ht by omega, (h3 _ q2).2.1, (h3 _ q2).2.2]
    · rw [if_neg q2, if_pos q3, show j - 5 * ht - 0 = j - 5 * ht by omega, g2 _ (by omega)]
  · rw [if_neg q, if_neg q]
    split
    · rfl
    · simp only [cpf]; rw [if_neg q]
theorem tryL_spent {rec : sT → sT} {sb : Ar} {al : Int32} {k : Nat} {z : sT} (h1 : z.2.2.2.2.2 = 1) (h2 : ¬ z.2.2.2.2.1 < al) (r v : Nat) : tryL rec sb al k r v z = z := by
  cases r with
  | zero => rfl
  | succ r =>
    show (if z.2.2.2.2.1 < al then _ else _) = z
    rw [if_neg h2, ← h1]
theorem nm1 {n R : Nat} (h : n ≤ R) (hR : R < 100) : ¬ nI n - 1 = nI R := by
  intro q
  have := congrArg Int32.toInt q
  rw [show nI n - 1 = nI n - nI 1 from rfl, pk_sub_toInt (by omega) (by omega), nI_toInt (by omega)] at this
  omega
theorem nm1a (n : Nat) : nI n - 1 + 1 = nI n := Int32.sub_add_cancel _ _
theorem nm1i (n : Nat) : nI n + Int32.ofInt (-1) = nI n - 1 := by
  rw [Int32.sub_eq_add_neg]; rfl
theorem nI_m1 {b : Nat} (hb : b < 2 ^ 31) : ¬ nI b = -1 := by
  intro q
  have := congrArg Int32.toInt q
  rw [nI_toInt hb] at this
  have e : (-1 : Int32).toInt = -1 := rfl
  rw [e] at this; omega
