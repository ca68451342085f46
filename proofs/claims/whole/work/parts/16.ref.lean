/-! ===== the reference: its cells at the places 29 to 44; behind them the law's long[1] ===== -/
abbrev md (th gn : Int32) (mk mc ms ml ma mb : Ar) (hn : Int32) (le gr mo hl hu pc pl : Ar) (aq sp st : Int32) (nw br : Ar) (o : Nat → Int64) : tk_W :=
  .inr (6, [.int th, .int gn, .ref 30, .ref 31, .ref 32, .ref 33, .ref 34, .ref 35, .int hn, .ref 36, .ref 37, .ref 38, .ref 39, .ref 40, .ref 41, .ref 42, .int aq, .int sp, .int st, .ref 43, .ref 44]) ::
  ia 5 mk :: ia 5 mc :: ia 5 ms :: ia 5 ml :: ia 20 ma :: ia 20 mb :: ia 4 le :: ia 4 gr :: ia 4 mo :: ia 16 hl :: ia 16 hu :: ia 4 pc :: ia 20 pl :: ia 5 nw :: .inl (2, 2048, .inl br) :: [.inl (1, 1, .inr (.inl o))]
theorem lt64 (x y : Int32) : x.toInt64 < y.toInt64 ↔ x < y := by
  rw [Int64.lt_iff_toInt_lt, Int32.lt_iff_toInt_lt, Int32.toInt_toInt64, Int32.toInt_toInt64]
theorem le64 (x y : Int32) : x.toInt64 ≤ y.toInt64 ↔ x ≤ y := by
  rw [Int64.le_iff_toInt_le, Int32.le_iff_toInt_le, Int32.toInt_toInt64, Int32.toInt_toInt64]
theorem m_in {w : tk_W} {v a b : Int64} : tk_M y_M_in w_M_in 0 0 0 [.long v, .long a, .long b] w (tk_det (.inl (some (.int (if v < a ∨ b < v then 0 else 1)))) w) := by
  refine tk_M.of (lv := [some (.long v), none, some (.long a), none, some (.long b), none]) (by decide) (Nat.le_of_ble_eq_true rfl) rfl ?_
  refine tk_lload_n (pc := 0) d_M_in_0 rfl ?_
  refine tk_lload_n (pc := 1) d_M_in_1 rfl ?_
  refine tk_lcmp (pc := 2) d_M_in_2 ?_
  refine tk_if_lt (pc := 3) (tgt := 17) d_M_in_3 (by decide) (fun hb => ?_) (fun hb => ?_)
  · refine tk_iconst (pc := 17) (v := 0) d_M_in_17 (by decide) ?_
    exact tk_ireturn (pc := 18) d_M_in_18 rfl rfl (Nat.le_of_ble_eq_true rfl) (Nat.le_of_ble_eq_true rfl) ⟨by rw [if_pos (Or.inl ((lg_cmp_lt _ _).mp hb))], rfl⟩
  refine tk_lload_n (pc := 6) d_M_in_6 rfl ?_
  refine tk_lload (pc := 7) d_M_in_7 rfl ?_
  refine tk_lcmp (pc := 9) d_M_in_9 ?_
  refine tk_if_gt (pc := 10) (tgt := 17) d_M_in_10 (by decide) (fun hc => ?_) (fun hc => ?_)
  · refine tk_iconst (pc := 17) (v := 0) d_M_in_17 (by decide) ?_
    exact tk_ireturn (pc := 18) d_M_in_18 rfl rfl (Nat.le_of_ble_eq_true rfl) (Nat.le_of_ble_eq_true rfl) ⟨by rw [if_pos (Or.inr ((lg_cmp_gt _ _).mp hc))], rfl⟩
  · refine tk_iconst (pc := 13) (v := 1) d_M_in_13 (by decide) ?_
    refine tk_goto (pc := 14) (tgt := 18) d_M_in_14 (by decide) ?_
    exact tk_ireturn (pc := 18) d_M_in_18 rfl rfl (Nat.le_of_ble_eq_true rfl) (Nat.le_of_ble_eq_true rfl) ⟨by rw [if_neg (fun q => q.elim (fun z => hb ((lg_cmp_lt _ _).mpr z)) (fun z => hc ((lg_cmp_gt _ _).mpr z)))], rfl⟩
/-- .. of an int -/
theorem m_inI {w : tk_W} {x lo hi : Int32} {A B : Int64} (hA : lo.toInt64 = A) (hB : hi.toInt64 = B) : tk_M y_M_in w_M_in 0 0 0 [.long x.toInt64, .long A, .long B] w (tk_det (.inl (some (.int (if x < lo ∨ hi < x then 0 else 1)))) w) := by
  have e : (x < lo ∨ hi < x) ↔ (x.toInt64 < A ∨ B < x.toInt64) := by rw [← hA, ← hB, lt64, lt64]
  have h := m_in (w := w) (v := x.toInt64) (a := A) (b := B)
  by_cases q : x < lo ∨ hi < x
  · rw [if_pos q]; rw [if_pos (e.mp q)] at h; exact h
  · rw [if_neg q]; rw [if_neg (fun z => q (e.mpr z))] at h; exact h
theorem m_in_yes {w : tk_W} {x lo hi : Int32} {A B : Int64} (hA : lo.toInt64 = A) (hB : hi.toInt64 = B) (h : ¬ (x < lo ∨ hi < x)) : tk_M y_M_in w_M_in 0 0 0 [.long x.toInt64, .long A, .long B] w (tk_det (.inl (some (.int 1))) w) := by
  have := m_inI (w := w) (x := x) hA hB
  rw [if_neg h] at this; exact this
theorem m_in_no {w : tk_W} {x lo hi : Int32} {A B : Int64} (hA : lo.toInt64 = A) (hB : hi.toInt64 = B) (h : x < lo ∨ hi < x) : tk_M y_M_in w_M_in 0 0 0 [.long x.toInt64, .long A, .long B] w (tk_det (.inl (some (.int 0))) w) := by
  have := m_inI (w := w) (x := x) hA hB
  rw [if_pos h] at this; exact this
theorem pred_lt {i : Int32} {n : Nat} (hn : n < 100) : (nI n - 1 < i) ↔ ¬ i < nI n := by
  have e1 : (nI n - 1).toInt = (n : Int) - 1 := pk_sub_toInt (b := 1) (by omega) (by omega)
  rw [Int32.lt_iff_toInt_lt, Int32.lt_iff_toInt_lt, e1, nI_toInt (by omega)]
  omega
def thF (a b c : Int32) : Int32 := if a = 0 then (if b = 0 then (if c = 0 then 0 else 3) else 2) else 1
section REF1
variable {g : sG} {h : sH} {p : sP} {c : sC} {th gn : Int32} {mk mc ms ml ma mb : Ar} {hn : Int32} {le gr mo hl hu pc pl : Ar} {aq sp st : Int32} {nw br : Ar} {o : Nat → Int64}
theorem m_thrown : tk_M y_M_thrown w_M_thrown 0 0 0 [.ref 29] (wd g h p c (md th gn mk mc ms ml ma mb hn le gr mo hl hu pc pl aq sp st nw br o)) (tk_det (.inl (some (.int th))) (wd g h p c (md th gn mk mc ms ml ma mb hn le gr mo hl hu pc pl aq sp st nw br o))) := by
  refine tk_M.of (lv := [some (.ref 29)]) (by decide) (Nat.le_of_ble_eq_true rfl) rfl ?_
  refine tk_aload_n (pc := 0) d_M_thrown_0 rfl ?_
  refine tk_get (pc := 1) d_M_thrown_1 f_M_56 rfl rfl ?_
  exact tk_ireturn (pc := 4) d_M_thrown_4 rfl rfl (Nat.le_of_ble_eq_true rfl) (Nat.le_of_ble_eq_true rfl) ⟨rfl, rfl⟩
theorem m_throwing {x y z : Int32} : tk_M y_M_throwing w_M_throwing 0 0 0 [.ref 29, .int x, .int y, .int z] (wd g h p c (md th gn mk mc ms ml ma mb hn le gr mo hl hu pc pl aq sp st nw br o)) (tk_det (.inl (some (.int (if thF x y z ≤ 0 then 0 else 1)))) (wd g h p c (md (thF x y z) gn mk mc ms ml ma mb hn le gr mo hl hu pc pl aq sp st nw br o))) := by
  refine tk_M.of (lv := [some (.ref 29), some (.int x), some (.int y), some (.int z)]) (by decide) (Nat.le_of_ble_eq_true rfl) rfl ?_
  have tail : ∀ v : Int32, v = thF x y z → tk_T y_M_throwing c_M_throwing 4 (some .boolean) [] 0 0 0 (fun _ => none) 0 0 (tk_det (.inl (some (.int (if thF x y z ≤ 0 then 0 else 1)))) (wd g h p c (md (thF x y z) gn mk mc ms ml ma mb hn le gr mo hl hu pc pl aq sp st nw br o))) 26 [some (.ref 29), some (.int x), some (.int y), some (.int z)] [.int v, .ref 29] (wd g h p c (md th gn mk mc ms ml ma mb hn le gr mo hl hu pc pl aq sp st nw br o)) := by
    intro v hv
    subst hv
    refine tk_put (pc := 26) d_M_throwing_26 f_M_56 p_M_0 rfl rfl rfl (Nat.le_of_ble_eq_true rfl) rfl ?_
    refine tk_aload_n (pc := 29) d_M_throwing_29 rfl ?_
    refine tk_get (pc := 30) d_M_throwing_30 f_M_56 rfl rfl ?_
    refine tk_if_le (pc := 33) (tgt := 40) d_M_throwing_33 (by decide) (fun hb => ?_) (fun hb => ?_)
    · refine tk_iconst (pc := 40) (v := 0) d_M_throwing_40 (by decide) ?_
      exact tk_ireturn (pc := 41) d_M_throwing_41 rfl rfl (Nat.le_of_ble_eq_true rfl) (Nat.le_of_ble_eq_true rfl) ⟨by rw [if_pos hb], rfl⟩
    · refine tk_iconst (pc := 36) (v := 1) d_M_throwing_36 (by decide) ?_
      refine tk_goto (pc := 37) (tgt := 41) d_M_throwing_37 (by decide) ?_
      exact tk_ireturn (pc := 41) d_M_throwing_41 rfl rfl (Nat.le_of_ble_eq_true rfl) (Nat.le_of_ble_eq_true rfl) ⟨by rw [if_neg hb], rfl⟩
  refine tk_aload_n (pc := 0) d_M_throwing_0 rfl ?_
  refine tk_iload_n (pc := 1) d_M_throwing_1 rfl ?_
  refine tk_if_eq (pc := 2) (tgt := 9) d_M_throwing_2 (by decide) (fun h1 => ?_) (fun h1 => ?_)
  · refine tk_iload_n (pc := 9) d_M_throwing_9 rfl ?_
    refine tk_if_eq (pc := 10) (tgt := 17) d_M_throwing_10 (by decide) (fun h2 => ?_) (fun h2 => ?_)
    · refine tk_iload_n (pc := 17) d_M_throwing_17 rfl ?_
      refine tk_if_eq (pc := 18) (tgt := 25) d_M_throwing_18 (by decide) (fun h3 => ?_) (fun h3 => ?_)
      · refine tk_iconst (pc := 25) (v := 0) d_M_throwing_25 (by decide) ?_
        exact tail 0 (by simp only [thF]; rw [if_pos h1, if_pos h2, if_pos h3])
      · refine tk_iconst (pc := 21) (v := 3) d_M_throwing_21 (by decide) ?_
        refine tk_goto (pc := 22) (tgt := 26) d_M_throwing_22 (by decide) ?_
        exact tail 3 (by simp only [thF]; rw [if_pos h1, if_pos h2, if_neg h3])
    · refine tk_iconst (pc := 13) (v := 2) d_M_throwing_13 (by decide) ?_
      refine tk_goto (pc := 14) (tgt := 26) d_M_throwing_14 (by decide) ?_
      exact tail 2 (by simp only [thF]; rw [if_pos h1, if_neg h2])
  · refine tk_iconst (pc := 5) (v := 1) d_M_throwing_5 (by decide) ?_
    refine tk_goto (pc := 6) (tgt := 26) d_M_throwing_6 (by decide) ?_
    exact tail 1 (by simp only [thF]; rw [if_neg h1])
theorem m_t1 {y z : Int32} : tk_M y_M_throwing w_M_throwing 0 0 0 [.ref 29, .int 1, .int y, .int z] (wd g h p c (md th gn mk mc ms ml ma mb hn le gr mo hl hu pc pl aq sp st nw br o)) (tk_det (.inl (some (.int 1))) (wd g h p c (md 1 gn mk mc ms ml ma mb hn le gr mo hl hu pc pl aq sp st nw br o))) := m_throwing (x := 1)
theorem m_t2 {z : Int32} : tk_M y_M_throwing w_M_throwing 0 0 0 [.ref 29, .int 0, .int 1, .int z] (wd g h p c (md th gn mk mc ms ml ma mb hn le gr mo hl hu pc pl aq sp st nw br o)) (tk_det (.inl (some (.int 1))) (wd g h p c (md 2 gn mk mc ms ml ma mb hn le gr mo hl hu pc pl aq sp st nw br o))) := m_throwing (x := 0) (y := 1)
theorem m_t3 : tk_M y_M_throwing w_M_throwing 0 0 0 [.ref 29, .int 0, .int 0, .int 1] (wd g h p c (md th gn mk mc ms ml ma mb hn le gr mo hl hu pc pl aq sp st nw br o)) (tk_det (.inl (some (.int 1))) (wd g h p c (md 3 gn mk mc ms ml ma mb hn le gr mo hl hu pc pl aq sp st nw br o))) := m_throwing (x := 0) (y := 0) (z := 1)
theorem m_t0 : tk_M y_M_throwing w_M_throwing 0 0 0 [.ref 29, .int 0, .int 0, .int 0] (wd g h p c (md th gn mk mc ms ml ma mb hn le gr mo hl hu pc pl aq sp st nw br o)) (tk_det (.inl (some (.int 0))) (wd g h p c (md 0 gn mk mc ms ml ma mb hn le gr mo hl hu pc pl aq sp st nw br o))) := m_throwing (x := 0) (y := 0) (z := 0)
theorem m_isGood {n : Nat} {i : Int32} (hn' : n < 100) : tk_M y_M_isGood w_M_isGood 1 0 0 [.ref 29, .int i] (wd g h p c (md th (nI n) mk mc ms ml ma mb hn le gr mo hl hu pc pl aq sp st nw br o)) (tk_det (.inl (some (.int (if i < 0 ∨ ¬ i < nI n then 0 else 1)))) (wd g h p c (md th (nI n) mk mc ms ml ma mb hn le gr mo hl hu pc pl aq sp st nw br o))) := by
  refine tk_M.of (lv := [some (.ref 29), some (.int i)]) (by decide) (Nat.le_of_ble_eq_true rfl) rfl ?_
  refine tk_iload_n (pc := 0) d_M_isGood_0 rfl ?_
  refine tk_i2l (pc := 1) d_M_isGood_1 ?_
  refine tk_lconst (pc := 2) (v := 0) d_M_isGood_2 (by decide) ?_
  refine tk_aload_n (pc := 3) d_M_isGood_3 rfl ?_
  refine tk_get (pc := 4) d_M_isGood_4 f_M_60 rfl rfl ?_
  refine tk_iconst (pc := 7) (v := 1) d_M_isGood_7 (by decide) ?_
  refine tk_isub (pc := 8) d_M_isGood_8 ?_
  refine tk_i2l (pc := 9) d_M_isGood_9 ?_
  refine tk_callSr (pc := 10) d_M_isGood_10 l_M_63 k_M_in (m_inI (x := i) (lo := 0) (hi := nI n - 1) rfl rfl) rfl (by omega) (Nat.le_of_ble_eq_true rfl) (Nat.le_of_ble_eq_true rfl) (Nat.le_of_ble_eq_true rfl) rfl rfl ?_
  by_cases hb : i < 0 ∨ nI n - 1 < i
  · rw [if_pos hb]
    exact tk_ireturn (pc := 13) d_M_isGood_13 rfl rfl (Nat.le_of_ble_eq_true rfl) (Nat.le_of_ble_eq_true rfl) ⟨by rw [if_pos (hb.imp id (pred_lt hn').mp)], rfl⟩
  · rw [if_neg hb]
    exact tk_ireturn (pc := 13) d_M_isGood_13 rfl rfl (Nat.le_of_ble_eq_true rfl) (Nat.le_of_ble_eq_true rfl) ⟨by rw [if_neg (fun q => hb (q.imp id (pred_lt hn').mpr))], rfl⟩
theorem m_isGood_y {n i : Nat} (hi : i < n) (hn' : n < 100) : tk_M y_M_isGood w_M_isGood 1 0 0 [.ref 29, .int (nI i)] (wd g h p c (md th (nI n) mk mc ms ml ma mb hn le gr mo hl hu pc pl aq sp st nw br o)) (tk_det (.inl (some (.int 1))) (wd g h p c (md th (nI n) mk mc ms ml ma mb hn le gr mo hl hu pc pl aq sp st nw br o))) := by
  have := m_isGood (g := g) (h := h) (p := p) (c := c) (th := th) (mk := mk) (mc := mc) (ms := ms) (ml := ml) (ma := ma) (mb := mb) (hn := hn) (le := le) (gr := gr) (mo := mo) (hl := hl) (hu := hu) (pc := pc) (pl := pl) (aq := aq) (sp := sp) (st := st) (nw := nw) (br := br) (o := o) (i := nI i) hn'
  rw [if_neg (fun q => q.elim (nI_pos (by omega)) (fun z => z (nI_lt hi (by omega))))] at this
  exact this
theorem m_isGood_n {n : Nat} {i : Int32} (hi : i < 0 ∨ ¬ i < nI n) (hn' : n < 100) : tk_M y_M_isGood w_M_isGood 1 0 0 [.ref 29, .int i] (wd g h p c (md th (nI n) mk mc ms ml ma mb hn le gr mo hl hu pc pl aq sp st nw br o)) (tk_det (.inl (some (.int 0))) (wd g h p c (md th (nI n) mk mc ms ml ma mb hn le gr mo hl hu pc pl aq sp st nw br o))) := by
  have := m_isGood (g := g) (h := h) (p := p) (c := c) (th := th) (mk := mk) (mc := mc) (ms := ms) (ml := ml) (ma := ma) (mb := mb) (hn := hn) (le := le) (gr := gr) (mo := mo) (hl := hl) (hu := hu) (pc := pc) (pl := pl) (aq := aq) (sp := sp) (st := st) (nw := nw) (br := br) (o := o) (i := i) hn'
  rw [if_pos hi] at this
  exact this
theorem m_isHeat {n : Nat} {i : Int32} (hn' : n < 100) : tk_M y_M_isHeat w_M_isHeat 1 0 0 [.ref 29, .int i] (wd g h p c (md th gn mk mc ms ml ma mb (nI n) le gr mo hl hu pc pl aq sp st nw br o)) (tk_det (.inl (some (.int (if i < 0 ∨ ¬ i < nI n then 0 else 1)))) (wd g h p c (md th gn mk mc ms ml ma mb (nI n) le gr mo hl hu pc pl aq sp st nw br o))) := by
  refine tk_M.of (lv := [some (.ref 29), some (.int i)]) (by decide) (Nat.le_of_ble_eq_true rfl) rfl ?_
  refine tk_iload_n (pc := 0) d_M_isHeat_0 rfl ?_
  refine tk_i2l (pc := 1) d_M_isHeat_1 ?_
  refine tk_lconst (pc := 2) (v := 0) d_M_isHeat_2 (by decide) ?_
  refine tk_aload_n (pc := 3) d_M_isHeat_3 rfl ?_
  refine tk_get (pc := 4) d_M_isHeat_4 f_M_67 rfl rfl ?_
  refine tk_iconst (pc := 7) (v := 1) d_M_isHeat_7 (by decide) ?_
  refine tk_isub (pc := 8) d_M_isHeat_8 ?_
  refine tk_i2l (pc := 9) d_M_isHeat_9 ?_
  refine tk_callSr (pc := 10) d_M_isHeat_10 l_M_63 k_M_in (m_inI (x := i) (lo := 0) (hi := nI n - 1) rfl rfl) rfl (by omega) (Nat.le_of_ble_eq_true rfl) (Nat.le_of_ble_eq_true rfl) (Nat.le_of_ble_eq_true rfl) rfl rfl ?_
  by_cases hb : i < 0 ∨ nI n - 1 < i
  · rw [if_pos hb]
    exact tk_ireturn (pc := 13) d_M_isHeat_13 rfl rfl (Nat.le_of_ble_eq_true rfl) (Nat.le_of_ble_eq_true rfl) ⟨by rw [if_pos (hb.imp id (pred_lt hn').mp)], rfl⟩
  · rw [if_neg hb]
    exact tk_ireturn (pc := 13) d_M_isHeat_13 rfl rfl (Nat.le_of_ble_eq_true rfl) (Nat.le_of_ble_eq_true rfl) ⟨by rw [if_neg (fun q => hb (q.imp id (pred_lt hn').mpr))], rfl⟩
theorem m_isHeat_y {n i : Nat} (hi : i < n) (hn' : n < 100) : tk_M y_M_isHeat w_M_isHeat 1 0 0 [.ref 29, .int (nI i)] (wd g h p c (md th gn mk mc ms ml ma mb (nI n) le gr mo hl hu pc pl aq sp st nw br o)) (tk_det (.inl (some (.int 1))) (wd g h p c (md th gn mk mc ms ml ma mb (nI n) le gr mo hl hu pc pl aq sp st nw br o))) := by
  have := m_isHeat (g := g) (h := h) (p := p) (c := c) (th := th) (gn := gn) (mk := mk) (mc := mc) (ms := ms) (ml := ml) (ma := ma) (mb := mb) (le := le) (gr := gr) (mo := mo) (hl := hl) (hu := hu) (pc := pc) (pl := pl) (aq := aq) (sp := sp) (st := st) (nw := nw) (br := br) (o := o) (i := nI i) hn'
  rw [if_neg (fun q => q.elim (nI_pos (by omega)) (fun z => z (nI_lt hi (by omega))))] at this
  exact this
theorem m_isHeat_n {n : Nat} {i : Int32} (hi : i < 0 ∨ ¬ i < nI n) (hn' : n < 100) : tk_M y_M_isHeat w_M_isHeat 1 0 0 [.ref 29, .int i] (wd g h p c (md th gn mk mc ms ml ma mb (nI n) le gr mo hl hu pc pl aq sp st nw br o)) (tk_det (.inl (some (.int 0))) (wd g h p c (md th gn mk mc ms ml ma mb (nI n) le gr mo hl hu pc pl aq sp st nw br o))) := by
  have := m_isHeat (g := g) (h := h) (p := p) (c := c) (th := th) (gn := gn) (mk := mk) (mc := mc) (ms := ms) (ml := ml) (ma := ma) (mb := mb) (le := le) (gr := gr) (mo := mo) (hl := hl) (hu := hu) (pc := pc) (pl := pl) (aq := aq) (sp := sp) (st := st) (nw := nw) (br := br) (o := o) (i := i) hn'
  rw [if_pos hi] at this
  exact this
theorem m_isSpan_y {a b : Int32} {w : tk_W} (h1 : ¬ (a < 0 ∨ 10000 < a)) (h2 : ¬ (b < a ∨ 10000 < b)) : tk_M y_M_isSpan w_M_isSpan 1 0 0 [.int a, .int b] w (tk_det (.inl (some (.int 1))) w) := by
  refine tk_M.of (lv := [some (.int a), some (.int b)]) (by decide) (Nat.le_of_ble_eq_true rfl) rfl ?_
  refine tk_iload_n (pc := 0) d_M_isSpan_0 rfl ?_
  refine tk_i2l (pc := 1) d_M_isSpan_1 ?_
  refine tk_lconst (pc := 2) (v := 0) d_M_isSpan_2 (by decide) ?_
  refine tk_ldc2 (pc := 3) d_M_isSpan_3 q_M_80 ?_
  refine tk_callSr (pc := 6) d_M_isSpan_6 l_M_63 k_M_in (m_in_yes (x := a) (lo := 0) (hi := 10000) rfl rfl h1) rfl (by omega) (Nat.le_of_ble_eq_true rfl) (Nat.le_of_ble_eq_true rfl) (Nat.le_of_ble_eq_true rfl) rfl rfl ?_
  refine tk_if_eq (pc := 9) (tgt := 29) d_M_isSpan_9 (by decide) (fun hb => ?_) (fun hb => ?_)
  · exact absurd hb (by decide)
  refine tk_iload_n (pc := 12) d_M_isSpan_12 rfl ?_
  refine tk_i2l (pc := 13) d_M_isSpan_13 ?_
  refine tk_iload_n (pc := 14) d_M_isSpan_14 rfl ?_
  refine tk_i2l (pc := 15) d_M_isSpan_15 ?_
  refine tk_ldc2 (pc := 16) d_M_isSpan_16 q_M_80 ?_
  refine tk_callSr (pc := 19) d_M_isSpan_19 l_M_63 k_M_in (m_in_yes (x := b) (lo := a) (hi := 10000) rfl rfl h2) rfl (by omega) (Nat.le_of_ble_eq_true rfl) (Nat.le_of_ble_eq_true rfl) (Nat.le_of_ble_eq_true rfl) rfl rfl ?_
  refine tk_if_eq (pc := 22) (tgt := 29) d_M_isSpan_22 (by decide) (fun hb => ?_) (fun hb => ?_)
  · exact absurd hb (by decide)
  refine tk_iconst (pc := 25) (v := 1) d_M_isSpan_25 (by decide) ?_
  refine tk_goto (pc := 26) (tgt := 30) d_M_isSpan_26 (by decide) ?_
  exact tk_ireturn (pc := 30) d_M_isSpan_30 rfl rfl (Nat.le_of_ble_eq_true rfl) (Nat.le_of_ble_eq_true rfl) ⟨rfl, rfl⟩
theorem m_isSpan_n {a b : Int32} {w : tk_W} (h0 : (a < 0 ∨ 10000 < a) ∨ (b < a ∨ 10000 < b)) : tk_M y_M_isSpan w_M_isSpan 1 0 0 [.int a, .int b] w (tk_det (.inl (some (.int 0))) w) := by
  refine tk_M.of (lv := [some (.int a), some (.int b)]) (by decide) (Nat.le_of_ble_eq_true rfl) rfl ?_
  refine tk_iload_n (pc := 0) d_M_isSpan_0 rfl ?_
  refine tk_i2l (pc := 1) d_M_isSpan_1 ?_
  refine tk_lconst (pc := 2) (v := 0) d_M_isSpan_2 (by decide) ?_
  refine tk_ldc2 (pc := 3) d_M_isSpan_3 q_M_80 ?_
  by_cases h1 : a < 0 ∨ 10000 < a
  · refine tk_callSr (pc := 6) d_M_isSpan_6 l_M_63 k_M_in (m_in_no (x := a) (lo := 0) (hi := 10000) rfl rfl h1) rfl (by omega) (Nat.le_of_ble_eq_true rfl) (Nat.le_of_ble_eq_true rfl) (Nat.le_of_ble_eq_true rfl) rfl rfl ?_
    refine tk_if_eq (pc := 9) (tgt := 29) d_M_isSpan_9 (by decide) (fun hb => ?_) (fun hb => ?_)
    · refine tk_iconst (pc := 29) (v := 0) d_M_isSpan_29 (by decide) ?_
      exact tk_ireturn (pc := 30) d_M_isSpan_30 rfl rfl (Nat.le_of_ble_eq_true rfl) (Nat.le_of_ble_eq_true rfl) ⟨rfl, rfl⟩
    · exact absurd rfl hb
  refine tk_callSr (pc := 6) d_M_isSpan_6 l_M_63 k_M_in (m_in_yes (x := a) (lo := 0) (hi := 10000) rfl rfl h1) rfl (by omega) (Nat.le_of_ble_eq_true rfl) (Nat.le_of_ble_eq_true rfl) (Nat.le_of_ble_eq_true rfl) rfl rfl ?_
  refine tk_if_eq (pc := 9) (tgt := 29) d_M_isSpan_9 (by decide) (fun hb => ?_) (fun hb => ?_)
  · exact absurd hb (by decide)
  refine tk_iload_n (pc := 12) d_M_isSpan_12 rfl ?_
  refine tk_i2l (pc := 13) d_M_isSpan_13 ?_
  refine tk_iload_n (pc := 14) d_M_isSpan_14 rfl ?_
  refine tk_i2l (pc := 15) d_M_isSpan_15 ?_
  refine tk_ldc2 (pc := 16) d_M_isSpan_16 q_M_80 ?_
  refine tk_callSr (pc := 19) d_M_isSpan_19 l_M_63 k_M_in (m_in_no (x := b) (lo := a) (hi := 10000) rfl rfl (h0.resolve_left h1)) rfl (by omega) (Nat.le_of_ble_eq_true rfl) (Nat.le_of_ble_eq_true rfl) (Nat.le_of_ble_eq_true rfl) rfl rfl ?_
  refine tk_if_eq (pc := 22) (tgt := 29) d_M_isSpan_22 (by decide) (fun hb => ?_) (fun hb => ?_)
  · refine tk_iconst (pc := 29) (v := 0) d_M_isSpan_29 (by decide) ?_
    exact tk_ireturn (pc := 30) d_M_isSpan_30 rfl rfl (Nat.le_of_ble_eq_true rfl) (Nat.le_of_ble_eq_true rfl) ⟨rfl, rfl⟩
  · exact absurd rfl hb
def tpm (ms ml : Ar) (k : Nat) : Int32 := if ml k ≤ ms k then ml k else ms k
theorem m_top {k : Nat} (hk : k < 5) : tk_M y_M_top w_M_top 0 0 0 [.ref 29, .int (nI k)] (wd g h p c (md th gn mk mc ms ml ma mb hn le gr mo hl hu pc pl aq sp st nw br o)) (tk_det (.inl (some (.int (tpm ms ml k)))) (wd g h p c (md th gn mk mc ms ml ma mb hn le gr mo hl hu pc pl aq sp st nw br o))) := by
  refine tk_M.of (lv := [some (.ref 29), some (.int (nI k))]) (by decide) (Nat.le_of_ble_eq_true rfl) rfl ?_
  refine tk_aload_n (pc := 0) d_M_top_0 rfl ?_
  refine tk_get (pc := 1) d_M_top_1 f_M_16 rfl rfl ?_
  refine tk_iload_n (pc := 4) d_M_top_4 rfl ?_
  refine tk_iald (pc := 5) k d_M_top_5 rfl rfl hk (by decide) ?_
  refine tk_aload_n (pc := 6) d_M_top_6 rfl ?_
  refine tk_get (pc := 7) d_M_top_7 f_M_19 rfl rfl ?_
  refine tk_iload_n (pc := 10) d_M_top_10 rfl ?_
  refine tk_iald (pc := 11) k d_M_top_11 rfl rfl hk (by decide) ?_
  refine tk_icmp_ge (pc := 12) (tgt := 24) d_M_top_12 (by decide) (fun hb => ?_) (fun hb => ?_)
  · refine tk_aload_n (pc := 24) d_M_top_24 rfl ?_
    refine tk_get (pc := 25) d_M_top_25 f_M_19 rfl rfl ?_
    refine tk_iload_n (pc := 28) d_M_top_28 rfl ?_
    refine tk_iald (pc := 29) k d_M_top_29 rfl rfl hk (by decide) ?_
    exact tk_ireturn (pc := 30) d_M_top_30 rfl rfl (Nat.le_of_ble_eq_true rfl) (Nat.le_of_ble_eq_true rfl) ⟨by simp only [tpm]; rw [if_pos hb], rfl⟩
  · refine tk_aload_n (pc := 15) d_M_top_15 rfl ?_
    refine tk_get (pc := 16) d_M_top_16 f_M_16 rfl rfl ?_
    refine tk_iload_n (pc := 19) d_M_top_19 rfl ?_
    refine tk_iald (pc := 20) k d_M_top_20 rfl rfl hk (by decide) ?_
    refine tk_goto (pc := 21) (tgt := 30) d_M_top_21 (by decide) ?_
    exact tk_ireturn (pc := 30) d_M_top_30 rfl rfl (Nat.le_of_ble_eq_true rfl) (Nat.le_of_ble_eq_true rfl) ⟨by simp only [tpm]; rw [if_neg hb], rfl⟩
end REF1
