/-! ===== the reference: keep, plans looked up ===== -/
def kpl (pl nw : Ar) (G h i : Nat) : Ar := fun j => if 5 * h ≤ j ∧ j < 5 * h + i then (if j - 5 * h < G then nw (j - 5 * h) else 0) else pl j
theorem kpl_0 (pl nw : Ar) (G h : Nat) : kpl pl nw G h 0 = pl := by
  funext j; simp only [kpl]; rw [if_neg (by omega)]
theorem kpl_s (pl nw : Ar) (G h i : Nat) : upd (kpl pl nw G h i) (5 * h + i) (if i < G then nw i else 0) = kpl pl nw G h (i + 1) := by
  funext j
  simp only [upd, kpl]
  by_cases h1 : j = 5 * h + i
  · subst h1
    rw [if_pos rfl, if_pos (c := 5 * h ≤ 5 * h + i ∧ _) (by omega), show 5 * h + i - 5 * h = i by omega]
  · rw [if_neg h1]
    by_cases h2 : 5 * h ≤ j ∧ j < 5 * h + i
    · rw [if_pos h2, if_pos (c := 5 * h ≤ j ∧ _) (by omega)]
    · rw [if_neg h2, if_neg (c := 5 * h ≤ j ∧ _) (by omega)]
def oI : Option Nat → Int32
  | none => -1
  | some b => nI b
def lsc (D : Dt) (i : Nat) : Option Nat → Bool
  | none => true
  | some b => decide (D.C i * D.K b < D.C b * D.K i)
/-- the good of the least cents a kilo, of the first i -/
def bst (D : Dt) : Nat → Option Nat
  | 0 => none
  | i + 1 => if 0 < D.R i ∧ lsc D i (bst D i) = true then some i else bst D i
theorem bst_lt (D : Dt) : ∀ i b, bst D i = some b → b < i ∧ 0 < D.R b := by
  intro i
  induction i with
  | zero => intro b h; simp [bst] at h
  | succ i ih =>
    intro b h
    simp only [bst] at h
    split at h
    · next q => cases h; exact ⟨by omega, q.1⟩
    · exact ⟨Nat.lt_succ_of_lt (ih b h).1, (ih b h).2⟩
def rfw (pl ms : Ar) (ht : Nat) : Nat → Int32
  | 0 => 0
  | i + 1 => if rfw pl ms ht i = 0 then (if pl (5 * ht + i) ≤ ms i then 0 else 1) else 1
def ism (br : Ar) (out : Int32) : Nat → Int32
  | 0 => 0
  | k + 1 => if ism br out k = 0 then (if br k = 0 then 0 else if nI k &&& (out ^^^ -1) = 0 then 1 else 0) else 1
section REF4
variable {g : sG} {h : sH} {p : sP} {c : sC} {th gn : Int32} {mk mc ms ml ma mb : Ar} {hn : Int32} {le gr mo hl hu pc pl : Ar} {aq sp st : Int32} {nw br : Ar} {o : Nat → Int64} {n : Nat} {D : Dt} {v : Nat → Nat}
theorem m_keep {ht : Nat} (hD : D.ok) (hh : ht < 4) (hv : ∀ j, j < D.G → nw j = nI (v j)) : tk_M y_M_keep w_M_keep 1 0 0 [.ref 29, .int (nI ht)] (wd g h p c (md th (nI D.G) (nN D.K) (nN D.C) (nN D.S) (nN D.L) (nN D.A) (nN D.B) (nI D.H) (nN D.LE) (nN D.GR) (nN D.MO) (nN D.HL) (nN D.HU) pc pl aq sp st nw br o)) (tk_det (.inl none) (wd g h p c (md th (nI D.G) (nN D.K) (nN D.C) (nN D.S) (nN D.L) (nN D.A) (nN D.B) (nI D.H) (nN D.LE) (nN D.GR) (nN D.MO) (nN D.HL) (nN D.HU) (upd pc ht (nI (sN v D.C D.G))) (kpl pl nw D.G ht 5) aq sp st nw br o))) := by
  have hG := hD.G
  refine tk_M.of (lv := [some (.ref 29), some (.int (nI ht)), none]) (by decide) (Nat.le_of_ble_eq_true rfl) rfl ?_
  refine tk_aload_n (pc := 0) d_M_keep_0 rfl ?_
  refine tk_get (pc := 1) d_M_keep_1 f_M_43 rfl rfl ?_
  refine tk_iload_n (pc := 4) d_M_keep_4 rfl ?_
  refine tk_aload_n (pc := 5) d_M_keep_5 rfl ?_
  refine tk_aload_n (pc := 6) d_M_keep_6 rfl ?_
  refine tk_get (pc := 7) d_M_keep_7 f_M_60 rfl rfl ?_
  refine tk_iconst (pc := 10) (v := 1) d_M_keep_10 (by decide) ?_
  refine tk_isub (pc := 11) d_M_keep_11 ?_
  refine tk_iconst (pc := 12) (v := 1) d_M_keep_12 (by decide) ?_
  refine tk_callVr (pc := 13) d_M_keep_13 l_M_97 k_M_sum rfl rfl rfl (m_sum1 (v := v) hG hv) rfl (by omega) (Nat.le_of_ble_eq_true rfl) (Nat.le_of_ble_eq_true rfl) (Nat.le_of_ble_eq_true rfl) rfl rfl ?_
  refine tk_iast (pc := 16) ht d_M_keep_16 rfl rfl hh (by decide) ?_
  refine tk_iconst (pc := 17) (v := 0) d_M_keep_17 (by decide) ?_
  refine tk_istore2 (pc := 18) d_M_keep_18 rfl (by decide) ?_
  have key : ∀ (m i : Nat), i + m = 5 → tk_T y_M_keep c_M_keep 3 none [] 1 0 0 (fun _ => none) 0 0 (tk_det (.inl none) (wd g h p c (md th (nI D.G) (nN D.K) (nN D.C) (nN D.S) (nN D.L) (nN D.A) (nN D.B) (nI D.H) (nN D.LE) (nN D.GR) (nN D.MO) (nN D.HL) (nN D.HU) (upd pc ht (nI (sN v D.C D.G))) (kpl pl nw D.G ht 5) aq sp st nw br o))) 19 [some (.ref 29), some (.int (nI ht)), some (.int (nI i))] [] (wd g h p c (md th (nI D.G) (nN D.K) (nN D.C) (nN D.S) (nN D.L) (nN D.A) (nN D.B) (nI D.H) (nN D.LE) (nN D.GR) (nN D.MO) (nN D.HL) (nN D.HU) (upd pc ht (nI (sN v D.C D.G))) (kpl pl nw D.G ht i) aq sp st nw br o)) := by
    intro m
    induction m with
    | zero =>
      intro i hi
      obtain rfl : i = 5 := by omega
      refine tk_iload_n (pc := 19) d_M_keep_19 rfl ?_
      refine tk_iconst (pc := 20) (v := 5) d_M_keep_20 (by decide) ?_
      refine tk_icmp_ge (pc := 21) (tgt := 58) d_M_keep_21 (by decide) (fun hb => ?_) (fun hb => ?_)
      · exact tk_return (pc := 58) d_M_keep_58 rfl (Nat.le_of_ble_eq_true rfl) (Nat.le_of_ble_eq_true rfl) ⟨rfl, rfl⟩
      · exact absurd (show nI 5 ≤ nI 5 from by decide) hb
    | succ m ih =>
      intro i hi
      refine tk_iload_n (pc := 19) d_M_keep_19 rfl ?_
      refine tk_iconst (pc := 20) (v := 5) d_M_keep_20 (by decide) ?_
      refine tk_icmp_ge (pc := 21) (tgt := 58) d_M_keep_21 (by decide) (fun hb => ?_) (fun hb => ?_)
      · exact absurd ((nI_leI (a := 5) (b := i) (by omega) (by omega)).mp hb) (by omega)
      have nx : ∀ q : Int32, q = (if i < D.G then nw i else 0) → tk_T y_M_keep c_M_keep 3 none [] 1 0 0 (fun _ => none) 0 0 (tk_det (.inl none) (wd g h p c (md th (nI D.G) (nN D.K) (nN D.C) (nN D.S) (nN D.L) (nN D.A) (nN D.B) (nI D.H) (nN D.LE) (nN D.GR) (nN D.MO) (nN D.HL) (nN D.HU) (upd pc ht (nI (sN v D.C D.G))) (kpl pl nw D.G ht 5) aq sp st nw br o))) 51 [some (.ref 29), some (.int (nI ht)), some (.int (nI i))] [.int q, .int (nI 5 * nI ht + nI i), .ref 42] (wd g h p c (md th (nI D.G) (nN D.K) (nN D.C) (nN D.S) (nN D.L) (nN D.A) (nN D.B) (nI D.H) (nN D.LE) (nN D.GR) (nN D.MO) (nN D.HL) (nN D.HU) (upd pc ht (nI (sN v D.C D.G))) (kpl pl nw D.G ht i) aq sp st nw br o)) := by
        intro q hq
        refine tk_iast (pc := 51) (5*ht+i) d_M_keep_51 rfl (ixma 5 ht i) (by omega) (by decide) ?_
        refine tk_jinc2 (pc := 52) d_M_keep_52 rfl (by decide) ?_
        refine tk_goto (pc := 55) (tgt := 19) d_M_keep_55 (by decide) ?_
        refine tk_eq rfl (by rw [inc1]) rfl ?_ (ih (i + 1) (by omega))
        rw [← kpl_s, hq]; rfl
      refine tk_aload_n (pc := 24) d_M_keep_24 rfl ?_
      refine tk_get (pc := 25) d_M_keep_25 f_M_46 rfl rfl ?_
      refine tk_iconst (pc := 28) (v := 5) d_M_keep_28 (by decide) ?_
      refine tk_iload_n (pc := 29) d_M_keep_29 rfl ?_
      refine tk_imul (pc := 30) d_M_keep_30 ?_
      refine tk_iload_n (pc := 31) d_M_keep_31 rfl ?_
      refine tk_iadd (pc := 32) d_M_keep_32 ?_
      refine tk_iload_n (pc := 33) d_M_keep_33 rfl ?_
      refine tk_aload_n (pc := 34) d_M_keep_34 rfl ?_
      refine tk_get (pc := 35) d_M_keep_35 f_M_60 rfl rfl ?_
      refine tk_icmp_ge (pc := 38) (tgt := 50) d_M_keep_38 (by decide) (fun hc => ?_) (fun hc => ?_)
      · refine tk_iconst (pc := 50) (v := 0) d_M_keep_50 (by decide) ?_
        have := (nI_leI (by omega) (by omega)).mp hc
        exact nx 0 (by rw [if_neg (by omega)])
      · refine tk_aload_n (pc := 41) d_M_keep_41 rfl ?_
        refine tk_get (pc := 42) d_M_keep_42 f_M_49 rfl rfl ?_
        refine tk_iload_n (pc := 45) d_M_keep_45 rfl ?_
        refine tk_iald (pc := 46) i d_M_keep_46 rfl rfl (by omega) (by decide) ?_
        refine tk_goto (pc := 47) (tgt := 51) d_M_keep_47 (by decide) ?_
        have : ¬ D.G ≤ i := fun q => hc (nI_le q (by omega))
        exact nx (nw i) (by rw [if_pos (by omega)])
  exact tk_eq rfl rfl rfl (by rw [kpl_0]; rfl) (key 5 0 rfl)
theorem m_hasPlan_x {i : Int32} (hi : i < 0 ∨ ¬ i < nI n) (hn' : n < 5) : tk_M y_M_hasPlan w_M_hasPlan 2 0 0 [.ref 29, .int i] (wd g h p c (md th gn mk mc ms ml ma mb (nI n) le gr mo hl hu pc pl aq sp st nw br o)) (tk_det (.inl (some (.int 0))) (wd g h p c (md th gn mk mc ms ml ma mb (nI n) le gr mo hl hu pc pl aq sp st nw br o))) := by
  refine tk_M.of (lv := [some (.ref 29), some (.int i)]) (by decide) (Nat.le_of_ble_eq_true rfl) rfl ?_
  refine tk_aload_n (pc := 0) d_M_hasPlan_0 rfl ?_
  refine tk_iload_n (pc := 1) d_M_hasPlan_1 rfl ?_
  refine tk_callVr (pc := 2) d_M_hasPlan_2 l_M_92 k_M_isHeat rfl rfl rfl (m_isHeat_n hi (by omega)) rfl (by omega) (Nat.le_of_ble_eq_true rfl) (Nat.le_of_ble_eq_true rfl) (Nat.le_of_ble_eq_true rfl) rfl rfl ?_
  refine tk_if_eq (pc := 5) (tgt := 21) d_M_hasPlan_5 (by decide) (fun hb => ?_) (fun hb => ?_)
  · refine tk_iconst (pc := 21) (v := 0) d_M_hasPlan_21 (by decide) ?_
    exact tk_ireturn (pc := 22) d_M_hasPlan_22 rfl rfl (Nat.le_of_ble_eq_true rfl) (Nat.le_of_ble_eq_true rfl) ⟨rfl, rfl⟩
  · exact absurd rfl hb
theorem m_hasPlan {i : Nat} (hi : i < n) (hn' : n < 5) : tk_M y_M_hasPlan w_M_hasPlan 2 0 0 [.ref 29, .int (nI i)] (wd g h p c (md th gn mk mc ms ml ma mb (nI n) le gr mo hl hu pc pl aq sp st nw br o)) (tk_det (.inl (some (.int (if pc i < 0 then 0 else 1)))) (wd g h p c (md th gn mk mc ms ml ma mb (nI n) le gr mo hl hu pc pl aq sp st nw br o))) := by
  refine tk_M.of (lv := [some (.ref 29), some (.int (nI i))]) (by decide) (Nat.le_of_ble_eq_true rfl) rfl ?_
  refine tk_aload_n (pc := 0) d_M_hasPlan_0 rfl ?_
  refine tk_iload_n (pc := 1) d_M_hasPlan_1 rfl ?_
  refine tk_callVr (pc := 2) d_M_hasPlan_2 l_M_92 k_M_isHeat rfl rfl rfl (m_isHeat_y hi (by omega)) rfl (by omega) (Nat.le_of_ble_eq_true rfl) (Nat.le_of_ble_eq_true rfl) (Nat.le_of_ble_eq_true rfl) rfl rfl ?_
  refine tk_if_eq (pc := 5) (tgt := 21) d_M_hasPlan_5 (by decide) (fun hb => ?_) (fun hb => ?_)
  · exact absurd hb (by decide)
  refine tk_aload_n (pc := 8) d_M_hasPlan_8 rfl ?_
  refine tk_get (pc := 9) d_M_hasPlan_9 f_M_43 rfl rfl ?_
  refine tk_iload_n (pc := 12) d_M_hasPlan_12 rfl ?_
  refine tk_iald (pc := 13) i d_M_hasPlan_13 rfl rfl (by omega) (by decide) ?_
  refine tk_if_lt (pc := 14) (tgt := 21) d_M_hasPlan_14 (by decide) (fun hc => ?_) (fun hc => ?_)
  · refine tk_iconst (pc := 21) (v := 0) d_M_hasPlan_21 (by decide) ?_
    exact tk_ireturn (pc := 22) d_M_hasPlan_22 rfl rfl (Nat.le_of_ble_eq_true rfl) (Nat.le_of_ble_eq_true rfl) ⟨by rw [if_pos hc], rfl⟩
  · refine tk_iconst (pc := 17) (v := 1) d_M_hasPlan_17 (by decide) ?_
    refine tk_goto (pc := 18) (tgt := 22) d_M_hasPlan_18 (by decide) ?_
    exact tk_ireturn (pc := 22) d_M_hasPlan_22 rfl rfl (Nat.le_of_ble_eq_true rfl) (Nat.le_of_ble_eq_true rfl) ⟨by rw [if_neg hc], rfl⟩
theorem m_hasPlan_n {i : Nat} (hi : i < n) (hn' : n < 5) (hp : pc i < 0) : tk_M y_M_hasPlan w_M_hasPlan 2 0 0 [.ref 29, .int (nI i)] (wd g h p c (md th gn mk mc ms ml ma mb (nI n) le gr mo hl hu pc pl aq sp st nw br o)) (tk_det (.inl (some (.int 0))) (wd g h p c (md th gn mk mc ms ml ma mb (nI n) le gr mo hl hu pc pl aq sp st nw br o))) := by
  have := m_hasPlan (g := g) (h := h) (p := p) (c := c) (th := th) (gn := gn) (mk := mk) (mc := mc) (ms := ms) (ml := ml) (ma := ma) (mb := mb) (le := le) (gr := gr) (mo := mo) (hl := hl) (hu := hu) (pc := pc) (pl := pl) (aq := aq) (sp := sp) (st := st) (nw := nw) (br := br) (o := o) hi hn'
  rw [if_pos hp] at this; exact this
theorem m_hasPlan_y {i : Nat} (hi : i < n) (hn' : n < 5) (hp : ¬ pc i < 0) : tk_M y_M_hasPlan w_M_hasPlan 2 0 0 [.ref 29, .int (nI i)] (wd g h p c (md th gn mk mc ms ml ma mb (nI n) le gr mo hl hu pc pl aq sp st nw br o)) (tk_det (.inl (some (.int 1))) (wd g h p c (md th gn mk mc ms ml ma mb (nI n) le gr mo hl hu pc pl aq sp st nw br o))) := by
  have := m_hasPlan (g := g) (h := h) (p := p) (c := c) (th := th) (gn := gn) (mk := mk) (mc := mc) (ms := ms) (ml := ml) (ma := ma) (mb := mb) (le := le) (gr := gr) (mo := mo) (hl := hl) (hu := hu) (pc := pc) (pl := pl) (aq := aq) (sp := sp) (st := st) (nw := nw) (br := br) (o := o) hi hn'
  rw [if_neg hp] at this; exact this
theorem m_hasPlan_a {i : Int32} (hn' : n < 5) : ∃ q : Int32, tk_M y_M_hasPlan w_M_hasPlan 2 0 0 [.ref 29, .int i] (wd g h p c (md th gn mk mc ms ml ma mb (nI n) le gr mo hl hu pc pl aq sp st nw br o)) (tk_det (.inl (some (.int q))) (wd g h p c (md th gn mk mc ms ml ma mb (nI n) le gr mo hl hu pc pl aq sp st nw br o))) := by
  by_cases hi : i < 0 ∨ ¬ i < nI n
  · exact ⟨_, m_hasPlan_x hi hn'⟩
  · obtain ⟨j, hj, rfl⟩ : ∃ j : Nat, j < n ∧ i = nI j := by
      rcases pk_ix i (n := n) (by omega) with q | q | q
      · exact absurd (Or.inl q) hi
      · exact absurd (Or.inr (fun z => by rw [Int32.lt_iff_toInt_lt] at z; rw [Int32.le_iff_toInt_le] at q; omega)) hi
      · exact q
    exact ⟨_, m_hasPlan hj hn'⟩
/-! amount -/
theorem r_amount_1 {i k : Int32} {G : Nat} (hn' : n < 5) (hG : G < 6) (hi : (i < 0 ∨ ¬ i < nI n) ∨ (k < 0 ∨ ¬ k < nI G)) : tk_M y_M_amount w_M_amount 10 0 0 [.ref 29, .int i, .int k] (wd g h p c (md th (nI G) mk mc ms ml ma mb (nI n) le gr mo hl hu pc pl aq sp st nw br o)) (tk_det (.inl (some (.int 0))) (wd g h p c (md 1 (nI G) mk mc ms ml ma mb (nI n) le gr mo hl hu pc pl aq sp st nw br o))) := by
  refine tk_M.of (lv := [some (.ref 29), some (.int i), some (.int k)]) (by decide) (Nat.le_of_ble_eq_true rfl) rfl ?_
  have tail : tk_T y_M_amount c_M_amount 3 (some .int) [] 10 0 0 (fun _ => none) 0 0 (tk_det (.inl (some (.int 0))) (wd g h p c (md 1 (nI G) mk mc ms ml ma mb (nI n) le gr mo hl hu pc pl aq sp st nw br o))) 17 [some (.ref 29), some (.int i), some (.int k)] [.ref 29] (wd g h p c (md th (nI G) mk mc ms ml ma mb (nI n) le gr mo hl hu pc pl aq sp st nw br o)) := by
    have t2 : ∀ q : Int32, tk_T y_M_amount c_M_amount 3 (some .int) [] 10 0 0 (fun _ => none) 0 0 (tk_det (.inl (some (.int 0))) (wd g h p c (md 1 (nI G) mk mc ms ml ma mb (nI n) le gr mo hl hu pc pl aq sp st nw br o))) 35 [some (.ref 29), some (.int i), some (.int k)] [.int q, .int 1, .ref 29] (wd g h p c (md th (nI G) mk mc ms ml ma mb (nI n) le gr mo hl hu pc pl aq sp st nw br o)) := by
      intro q
      refine tk_iconst (pc := 35) (v := 0) d_M_amount_35 (by decide) ?_
      refine tk_callVr (pc := 36) d_M_amount_36 l_M_76 k_M_throwing rfl rfl rfl (m_t1 (y := q) (z := 0)) rfl (by omega) (Nat.le_of_ble_eq_true rfl) (Nat.le_of_ble_eq_true rfl) (Nat.le_of_ble_eq_true rfl) rfl rfl ?_
      refine tk_if_eq (pc := 39) (tgt := 44) d_M_amount_39 (by decide) (fun hb => ?_) (fun hb => ?_)
      · exact absurd hb (by decide)
      refine tk_iconst (pc := 42) (v := 0) d_M_amount_42 (by decide) ?_
      exact tk_ireturn (pc := 43) d_M_amount_43 rfl rfl (Nat.le_of_ble_eq_true rfl) (Nat.le_of_ble_eq_true rfl) ⟨rfl, rfl⟩
    refine tk_iconst (pc := 17) (v := 1) d_M_amount_17 (by decide) ?_
    refine tk_goto (pc := 18) (tgt := 22) d_M_amount_18 (by decide) ?_
    refine tk_aload_n (pc := 22) d_M_amount_22 rfl ?_
    refine tk_iload_n (pc := 23) d_M_amount_23 rfl ?_
    obtain ⟨q, hq⟩ := m_hasPlan_a (g := g) (h := h) (p := p) (c := c) (th := th) (gn := nI G) (mk := mk) (mc := mc) (ms := ms) (ml := ml) (ma := ma) (mb := mb) (le := le) (gr := gr) (mo := mo) (hl := hl) (hu := hu) (pc := pc) (pl := pl) (aq := aq) (sp := sp) (st := st) (nw := nw) (br := br) (o := o) (i := i) hn'
    refine tk_callVr (pc := 24) d_M_amount_24 l_M_122 k_M_hasPlan rfl rfl rfl (hq) rfl (by omega) (Nat.le_of_ble_eq_true rfl) (Nat.le_of_ble_eq_true rfl) (Nat.le_of_ble_eq_true rfl) rfl rfl ?_
    refine tk_if_ne (pc := 27) (tgt := 34) d_M_amount_27 (by decide) (fun hb => ?_) (fun hb => ?_)
    · refine tk_iconst (pc := 34) (v := 0) d_M_amount_34 (by decide) ?_
      exact t2 0
    · refine tk_iconst (pc := 30) (v := 1) d_M_amount_30 (by decide) ?_
      refine tk_goto (pc := 31) (tgt := 35) d_M_amount_31 (by decide) ?_
      exact t2 1
  refine tk_aload_n (pc := 0) d_M_amount_0 rfl ?_
  refine tk_aload_n (pc := 1) d_M_amount_1 rfl ?_
  refine tk_iload_n (pc := 2) d_M_amount_2 rfl ?_
  by_cases h1 : i < 0 ∨ ¬ i < nI n
  · refine tk_callVr (pc := 3) d_M_amount_3 l_M_92 k_M_isHeat rfl rfl rfl (m_isHeat_n h1 (by omega)) rfl (by omega) (Nat.le_of_ble_eq_true rfl) (Nat.le_of_ble_eq_true rfl) (Nat.le_of_ble_eq_true rfl) rfl rfl ?_
    refine tk_if_eq (pc := 6) (tgt := 17) d_M_amount_6 (by decide) (fun hb => ?_) (fun hb => ?_)
    · exact tail
    · exact absurd rfl hb
  refine tk_callVr (pc := 3) d_M_amount_3 l_M_92 k_M_isHeat rfl rfl rfl (m_isHeat (n := n) (i := i) (by omega)) rfl (by omega) (Nat.le_of_ble_eq_true rfl) (Nat.le_of_ble_eq_true rfl) (Nat.le_of_ble_eq_true rfl) rfl rfl ?_
  rw [if_neg h1]
  refine tk_if_eq (pc := 6) (tgt := 17) d_M_amount_6 (by decide) (fun hb => ?_) (fun hb => ?_)
  · exact absurd hb (by decide)
  refine tk_aload_n (pc := 9) d_M_amount_9 rfl ?_
  refine tk_iload_n (pc := 10) d_M_amount_10 rfl ?_
  refine tk_callVr (pc := 11) d_M_amount_11 l_M_82 k_M_isGood rfl rfl rfl (m_isGood_n (hi.resolve_left h1) (by omega)) rfl (by omega) (Nat.le_of_ble_eq_true rfl) (Nat.le_of_ble_eq_true rfl) (Nat.le_of_ble_eq_true rfl) rfl rfl ?_
  refine tk_if_ne (pc := 14) (tgt := 21) d_M_amount_14 (by decide) (fun hc => ?_) (fun hc => ?_)
  · exact absurd rfl hc
  · exact tail
theorem r_amount_2 {i k G : Nat} (hn' : n < 5) (hG : G < 6) (hi : i < n) (hk : k < G) (hp : pc i < 0) : tk_M y_M_amount w_M_amount 10 0 0 [.ref 29, .int (nI i), .int (nI k)] (wd g h p c (md th (nI G) mk mc ms ml ma mb (nI n) le gr mo hl hu pc pl aq sp st nw br o)) (tk_det (.inl (some (.int 0))) (wd g h p c (md 2 (nI G) mk mc ms ml ma mb (nI n) le gr mo hl hu pc pl aq sp st nw br o))) := by
  refine tk_M.of (lv := [some (.ref 29), some (.int (nI i)), some (.int (nI k))]) (by decide) (Nat.le_of_ble_eq_true rfl) rfl ?_
  refine tk_aload_n (pc := 0) d_M_amount_0 rfl ?_
  refine tk_aload_n (pc := 1) d_M_amount_1 rfl ?_
  refine tk_iload_n (pc := 2) d_M_amount_2 rfl ?_
  refine tk_callVr (pc := 3) d_M_amount_3 l_M_92 k_M_isHeat rfl rfl rfl (m_isHeat_y hi (by omega)) rfl (by omega) (Nat.le_of_ble_eq_true rfl) (Nat.le_of_ble_eq_true rfl) (Nat.le_of_ble_eq_true rfl) rfl rfl ?_
  refine tk_if_eq (pc := 6) (tgt := 17) d_M_amount_6 (by decide) (fun hb => ?_) (fun hb => ?_)
  · exact absurd hb (by decide)
  refine tk_aload_n (pc := 9) d_M_amount_9 rfl ?_
  refine tk_iload_n (pc := 10) d_M_amount_10 rfl ?_
  refine tk_callVr (pc := 11) d_M_amount_11 l_M_82 k_M_isGood rfl rfl rfl (m_isGood_y hk (by omega)) rfl (by omega) (Nat.le_of_ble_eq_true rfl) (Nat.le_of_ble_eq_true rfl) (Nat.le_of_ble_eq_true rfl) rfl rfl ?_
  refine tk_if_ne (pc := 14) (tgt := 21) d_M_amount_14 (by decide) (fun hc => ?_) (fun hc => ?_)
  · refine tk_iconst (pc := 21) (v := 0) d_M_amount_21 (by decide) ?_
    refine tk_aload_n (pc := 22) d_M_amount_22 rfl ?_
    refine tk_iload_n (pc := 23) d_M_amount_23 rfl ?_
    refine tk_callVr (pc := 24) d_M_amount_24 l_M_122 k_M_hasPlan rfl rfl rfl (m_hasPlan_n hi hn' hp) rfl (by omega) (Nat.le_of_ble_eq_true rfl) (Nat.le_of_ble_eq_true rfl) (Nat.le_of_ble_eq_true rfl) rfl rfl ?_
    refine tk_if_ne (pc := 27) (tgt := 34) d_M_amount_27 (by decide) (fun hd => ?_) (fun hd => ?_)
    · exact absurd rfl hd
    refine tk_iconst (pc := 30) (v := 1) d_M_amount_30 (by decide) ?_
    refine tk_goto (pc := 31) (tgt := 35) d_M_amount_31 (by decide) ?_
    refine tk_iconst (pc := 35) (v := 0) d_M_amount_35 (by decide) ?_
    refine tk_callVr (pc := 36) d_M_amount_36 l_M_76 k_M_throwing rfl rfl rfl (m_t2 (z := 0)) rfl (by omega) (Nat.le_of_ble_eq_true rfl) (Nat.le_of_ble_eq_true rfl) (Nat.le_of_ble_eq_true rfl) rfl rfl ?_
    refine tk_if_eq (pc := 39) (tgt := 44) d_M_amount_39 (by decide) (fun he => ?_) (fun he => ?_)
    · exact absurd he (by decide)
    refine tk_iconst (pc := 42) (v := 0) d_M_amount_42 (by decide) ?_
    exact tk_ireturn (pc := 43) d_M_amount_43 rfl rfl (Nat.le_of_ble_eq_true rfl) (Nat.le_of_ble_eq_true rfl) ⟨rfl, rfl⟩
  · exact absurd hc (by decide)
theorem r_amount_0 {i k G : Nat} (hn' : n < 5) (hG : G < 6) (hi : i < n) (hk : k < G) (hp : ¬ pc i < 0) : tk_M y_M_amount w_M_amount 10 0 0 [.ref 29, .int (nI i), .int (nI k)] (wd g h p c (md th (nI G) mk mc ms ml ma mb (nI n) le gr mo hl hu pc pl aq sp st nw br o)) (tk_det (.inl (some (.int (pl (5 * i + k))))) (wd g h p c (md 0 (nI G) mk mc ms ml ma mb (nI n) le gr mo hl hu pc pl aq sp st nw br o))) := by
  refine tk_M.of (lv := [some (.ref 29), some (.int (nI i)), some (.int (nI k))]) (by decide) (Nat.le_of_ble_eq_true rfl) rfl ?_
  refine tk_aload_n (pc := 0) d_M_amount_0 rfl ?_
  refine tk_aload_n (pc := 1) d_M_amount_1 rfl ?_
  refine tk_iload_n (pc := 2) d_M_amount_2 rfl ?_
  refine tk_callVr (pc := 3) d_M_amount_3 l_M_92 k_M_isHeat rfl rfl rfl (m_isHeat_y hi (by omega)) rfl (by omega) (Nat.le_of_ble_eq_true rfl) (Nat.le_of_ble_eq_true rfl) (Nat.le_of_ble_eq_true rfl) rfl rfl ?_
  refine tk_if_eq (pc := 6) (tgt := 17) d_M_amount_6 (by decide) (fun hb => ?_) (fun hb => ?_)
  · exact absurd hb (by decide)
  refine tk_aload_n (pc := 9) d_M_amount_9 rfl ?_
  refine tk_iload_n (pc := 10) d_M_amount_10 rfl ?_
  refine tk_callVr (pc := 11) d_M_amount_11 l_M_82 k_M_isGood rfl rfl rfl (m_isGood_y hk (by omega)) rfl (by omega) (Nat.le_of_ble_eq_true rfl) (Nat.le_of_ble_eq_true rfl) (Nat.le_of_ble_eq_true rfl) rfl rfl ?_
  refine tk_if_ne (pc := 14) (tgt := 21) d_M_amount_14 (by decide) (fun hc => ?_) (fun hc => ?_)
  · refine tk_iconst (pc := 21) (v := 0) d_M_amount_21 (by decide) ?_
    refine tk_aload_n (pc := 22) d_M_amount_22 rfl ?_
    refine tk_iload_n (pc := 23) d_M_amount_23 rfl ?_
    refine tk_callVr (pc := 24) d_M_amount_24 l_M_122 k_M_hasPlan rfl rfl rfl (m_hasPlan_y hi hn' hp) rfl (by omega) (Nat.le_of_ble_eq_true rfl) (Nat.le_of_ble_eq_true rfl) (Nat.le_of_ble_eq_true rfl) rfl rfl ?_
    refine tk_if_ne (pc := 27) (tgt := 34) d_M_amount_27 (by decide) (fun hd => ?_) (fun hd => ?_)
    · refine tk_iconst (pc := 34) (v := 0) d_M_amount_34 (by decide) ?_
      refine tk_iconst (pc := 35) (v := 0) d_M_amount_35 (by decide) ?_
      refine tk_callVr (pc := 36) d_M_amount_36 l_M_76 k_M_throwing rfl rfl rfl (m_t0) rfl (by omega) (Nat.le_of_ble_eq_true rfl) (Nat.le_of_ble_eq_true rfl) (Nat.le_of_ble_eq_true rfl) rfl rfl ?_
      refine tk_if_eq (pc := 39) (tgt := 44) d_M_amount_39 (by decide) (fun he => ?_) (fun he => ?_)
      · refine tk_aload_n (pc := 44) d_M_amount_44 rfl ?_
        refine tk_get (pc := 45) d_M_amount_45 f_M_46 rfl rfl ?_
        refine tk_iconst (pc := 48) (v := 5) d_M_amount_48 (by decide) ?_
        refine tk_iload_n (pc := 49) d_M_amount_49 rfl ?_
        refine tk_imul (pc := 50) d_M_amount_50 ?_
        refine tk_iload_n (pc := 51) d_M_amount_51 rfl ?_
        refine tk_iadd (pc := 52) d_M_amount_52 ?_
        refine tk_iald (pc := 53) (5*i+k) d_M_amount_53 rfl (ixma 5 i k) (by omega) (by decide) ?_
        exact tk_ireturn (pc := 54) d_M_amount_54 rfl rfl (Nat.le_of_ble_eq_true rfl) (Nat.le_of_ble_eq_true rfl) ⟨rfl, rfl⟩
      · exact absurd rfl he
    · exact absurd hd (by decide)
  · exact absurd hc (by decide)
/-! take -/
theorem r_take_1 {i : Int32} (hn' : n < 5) (hi : i < 0 ∨ ¬ i < nI n) : tk_M y_M_take w_M_take 10 0 0 [.ref 29, .int i] (wd g h p c (md th gn mk mc ms ml ma mb (nI n) le gr mo hl hu pc pl aq sp st nw br o)) (tk_det (.inl (some (.int 0))) (wd g h p c (md 1 gn mk mc ms ml ma mb (nI n) le gr mo hl hu pc pl aq sp st nw br o))) := by
  refine tk_M.of (lv := [some (.ref 29), some (.int i), none, none, none]) (by decide) (Nat.le_of_ble_eq_true rfl) rfl ?_
  refine tk_aload_n (pc := 0) d_M_take_0 rfl ?_
  refine tk_iload_n (pc := 1) d_M_take_1 rfl ?_
  refine tk_callVr (pc := 2) d_M_take_2 l_M_92 k_M_isHeat rfl rfl rfl (m_isHeat_n hi (by omega)) rfl (by omega) (Nat.le_of_ble_eq_true rfl) (Nat.le_of_ble_eq_true rfl) (Nat.le_of_ble_eq_true rfl) rfl rfl ?_
  refine tk_if_ne (pc := 5) (tgt := 12) d_M_take_5 (by decide) (fun hb => ?_) (fun hb => ?_)
  · exact absurd rfl hb
  refine tk_iconst (pc := 8) (v := 1) d_M_take_8 (by decide) ?_
  refine tk_goto (pc := 9) (tgt := 13) d_M_take_9 (by decide) ?_
  refine tk_istore2 (pc := 13) d_M_take_13 rfl (by decide) ?_
  refine tk_iconst (pc := 14) (v := 0) d_M_take_14 (by decide) ?_
  refine tk_istore3 (pc := 15) d_M_take_15 rfl (by decide) ?_
  refine tk_iconst (pc := 16) (v := 0) d_M_take_16 (by decide) ?_
  refine tk_istore4 (pc := 17) d_M_take_17 rfl (by decide) ?_
  refine tk_iload_n (pc := 19) d_M_take_19 rfl ?_
  refine tk_if_ne (pc := 20) (tgt := 69) d_M_take_20 (by decide) (fun hc => ?_) (fun hc => ?_)
  · refine tk_aload_n (pc := 69) d_M_take_69 rfl ?_
    refine tk_iload_n (pc := 70) d_M_take_70 rfl ?_
    refine tk_aload_n (pc := 71) d_M_take_71 rfl ?_
    refine tk_iload_n (pc := 72) d_M_take_72 rfl ?_
    refine tk_callVr (pc := 73) d_M_take_73 l_M_122 k_M_hasPlan rfl rfl rfl (m_hasPlan_x hi hn') rfl (by omega) (Nat.le_of_ble_eq_true rfl) (Nat.le_of_ble_eq_true rfl) (Nat.le_of_ble_eq_true rfl) rfl rfl ?_
    refine tk_if_ne (pc := 76) (tgt := 83) d_M_take_76 (by decide) (fun hd => ?_) (fun hd => ?_)
    · exact absurd rfl hd
    refine tk_iconst (pc := 79) (v := 1) d_M_take_79 (by decide) ?_
    refine tk_goto (pc := 80) (tgt := 84) d_M_take_80 (by decide) ?_
    refine tk_iload_n (pc := 84) d_M_take_84 rfl ?_
    refine tk_callVr (pc := 85) d_M_take_85 l_M_76 k_M_throwing rfl rfl rfl (m_t1 (y := 1) (z := 0)) rfl (by omega) (Nat.le_of_ble_eq_true rfl) (Nat.le_of_ble_eq_true rfl) (Nat.le_of_ble_eq_true rfl) rfl rfl ?_
    refine tk_if_eq (pc := 88) (tgt := 93) d_M_take_88 (by decide) (fun he => ?_) (fun he => ?_)
    · exact absurd he (by decide)
    refine tk_iconst (pc := 91) (v := 0) d_M_take_91 (by decide) ?_
    exact tk_ireturn (pc := 92) d_M_take_92 rfl rfl (Nat.le_of_ble_eq_true rfl) (Nat.le_of_ble_eq_true rfl) ⟨rfl, rfl⟩
  · exact absurd hc (by decide)
theorem m_take_few' {i G : Nat} {Q : tk_R → tk_W → Prop} (hG : G < 6) (hi : i < 4)
    (K : tk_T y_M_take c_M_take 5 (some .int) [] 10 0 0 (fun _ => none) 0 0 Q 69 [some (.ref 29), some (.int (nI i)), some (.int 0), some (.int (rfw pl ms i G)), some (.int (nI G))] [] (wd g h p c (md th (nI G) mk mc ms ml ma mb hn le gr mo hl hu pc pl aq sp st nw br o))) :
    tk_T y_M_take c_M_take 5 (some .int) [] 10 0 0 (fun _ => none) 0 0 Q 19 [some (.ref 29), some (.int (nI i)), some (.int 0), some (.int 0), some (.int 0)] [] (wd g h p c (md th (nI G) mk mc ms ml ma mb hn le gr mo hl hu pc pl aq sp st nw br o)) := by
  have key : ∀ (m k : Nat), k + m = G → tk_T y_M_take c_M_take 5 (some .int) [] 10 0 0 (fun _ => none) 0 0 Q 19 [some (.ref 29), some (.int (nI i)), some (.int 0), some (.int (rfw pl ms i k)), some (.int (nI k))] [] (wd g h p c (md th (nI G) mk mc ms ml ma mb hn le gr mo hl hu pc pl aq sp st nw br o)) := by
    intro m
    induction m with
    | zero =>
      intro k hk
      obtain rfl : k = G := by omega
      refine tk_iload_n (pc := 19) d_M_take_19 rfl ?_
      refine tk_if_ne (pc := 20) (tgt := 69) d_M_take_20 (by decide) (fun hb => ?_) (fun hb => ?_)
      · exact absurd rfl hb
      refine tk_iload (pc := 23) d_M_take_23 rfl ?_
      refine tk_aload_n (pc := 25) d_M_take_25 rfl ?_
      refine tk_get (pc := 26) d_M_take_26 f_M_60 rfl rfl ?_
      refine tk_icmp_ge (pc := 29) (tgt := 69) d_M_take_29 (by decide) (fun hc => ?_) (fun hc => ?_)
      · exact K
      · exact absurd (nI_le (Nat.le_refl _) (by omega)) hc
    | succ m ih =>
      intro k hk
      refine tk_iload_n (pc := 19) d_M_take_19 rfl ?_
      refine tk_if_ne (pc := 20) (tgt := 69) d_M_take_20 (by decide) (fun hb => ?_) (fun hb => ?_)
      · exact absurd rfl hb
      refine tk_iload (pc := 23) d_M_take_23 rfl ?_
      refine tk_aload_n (pc := 25) d_M_take_25 rfl ?_
      refine tk_get (pc := 26) d_M_take_26 f_M_60 rfl rfl ?_
      refine tk_icmp_ge (pc := 29) (tgt := 69) d_M_take_29 (by decide) (fun hc => ?_) (fun hc => ?_)
      · exact absurd hc (nI_ge (by omega) (by omega))
      refine tk_iload_n (pc := 32) d_M_take_32 rfl ?_
      have nx : ∀ q : Int32, q = rfw pl ms i (k + 1) → tk_T y_M_take c_M_take 5 (some .int) [] 10 0 0 (fun _ => none) 0 0 Q 62 [some (.ref 29), some (.int (nI i)), some (.int 0), some (.int (rfw pl ms i k)), some (.int (nI k))] [.int q] (wd g h p c (md th (nI G) mk mc ms ml ma mb hn le gr mo hl hu pc pl aq sp st nw br o)) := by
        intro q hq
        refine tk_istore3 (pc := 62) d_M_take_62 rfl (by decide) ?_
        refine tk_jinc4 (pc := 63) d_M_take_63 rfl (by decide) ?_
        refine tk_goto (pc := 66) (tgt := 19) d_M_take_66 (by decide) ?_
        exact tk_eq rfl (by rw [inc1, hq]) rfl rfl (ih (k + 1) (by omega))
      refine tk_if_ne (pc := 33) (tgt := 57) d_M_take_33 (by decide) (fun hd => ?_) (fun hd => ?_)
      · refine tk_iconst (pc := 57) (v := 1) d_M_take_57 (by decide) ?_
        refine tk_goto (pc := 58) (tgt := 62) d_M_take_58 (by decide) ?_
        exact nx 1 (by simp only [rfw]; rw [if_neg hd])
      refine tk_aload_n (pc := 36) d_M_take_36 rfl ?_
      refine tk_get (pc := 37) d_M_take_37 f_M_46 rfl rfl ?_
      refine tk_iconst (pc := 40) (v := 5) d_M_take_40 (by decide) ?_
      refine tk_iload_n (pc := 41) d_M_take_41 rfl ?_
      refine tk_imul (pc := 42) d_M_take_42 ?_
      refine tk_iload (pc := 43) d_M_take_43 rfl ?_
      refine tk_iadd (pc := 45) d_M_take_45 ?_
      refine tk_iald (pc := 46) (5*i+k) d_M_take_46 rfl (ixma 5 i k) (by omega) (by decide) ?_
      refine tk_aload_n (pc := 47) d_M_take_47 rfl ?_
      refine tk_get (pc := 48) d_M_take_48 f_M_16 rfl rfl ?_
      refine tk_iload (pc := 51) d_M_take_51 rfl ?_
      refine tk_iald (pc := 53) k d_M_take_53 rfl rfl (by omega) (by decide) ?_
      refine tk_icmp_le (pc := 54) (tgt := 61) d_M_take_54 (by decide) (fun he => ?_) (fun he => ?_)
      · refine tk_iconst (pc := 61) (v := 0) d_M_take_61 (by decide) ?_
        exact nx 0 (by simp only [rfw]; rw [if_pos hd, if_pos he])
      · refine tk_iconst (pc := 57) (v := 1) d_M_take_57 (by decide) ?_
        refine tk_goto (pc := 58) (tgt := 62) d_M_take_58 (by decide) ?_
        exact nx 1 (by simp only [rfw]; rw [if_pos hd, if_neg he])
  exact key G 0 (by omega)
theorem r_take_2 {i G : Nat} (hn' : n < 5) (hG : G < 6) (hi : i < n) (hp : pc i < 0) : tk_M y_M_take w_M_take 10 0 0 [.ref 29, .int (nI i)] (wd g h p c (md th (nI G) mk mc ms ml ma mb (nI n) le gr mo hl hu pc pl aq sp st nw br o)) (tk_det (.inl (some (.int 0))) (wd g h p c (md 2 (nI G) mk mc ms ml ma mb (nI n) le gr mo hl hu pc pl aq sp st nw br o))) := by
  refine tk_M.of (lv := [some (.ref 29), some (.int (nI i)), none, none, none]) (by decide) (Nat.le_of_ble_eq_true rfl) rfl ?_
  refine tk_aload_n (pc := 0) d_M_take_0 rfl ?_
  refine tk_iload_n (pc := 1) d_M_take_1 rfl ?_
  refine tk_callVr (pc := 2) d_M_take_2 l_M_92 k_M_isHeat rfl rfl rfl (m_isHeat_y hi (by omega)) rfl (by omega) (Nat.le_of_ble_eq_true rfl) (Nat.le_of_ble_eq_true rfl) (Nat.le_of_ble_eq_true rfl) rfl rfl ?_
  refine tk_if_ne (pc := 5) (tgt := 12) d_M_take_5 (by decide) (fun hb => ?_) (fun hb => ?_)
  · refine tk_iconst (pc := 12) (v := 0) d_M_take_12 (by decide) ?_
    refine tk_istore2 (pc := 13) d_M_take_13 rfl (by decide) ?_
    refine tk_iconst (pc := 14) (v := 0) d_M_take_14 (by decide) ?_
    refine tk_istore3 (pc := 15) d_M_take_15 rfl (by decide) ?_
    refine tk_iconst (pc := 16) (v := 0) d_M_take_16 (by decide) ?_
    refine tk_istore4 (pc := 17) d_M_take_17 rfl (by decide) ?_
    refine m_take_few' hG (by omega) ?_
    refine tk_aload_n (pc := 69) d_M_take_69 rfl ?_
    refine tk_iload_n (pc := 70) d_M_take_70 rfl ?_
    refine tk_aload_n (pc := 71) d_M_take_71 rfl ?_
    refine tk_iload_n (pc := 72) d_M_take_72 rfl ?_
    refine tk_callVr (pc := 73) d_M_take_73 l_M_122 k_M_hasPlan rfl rfl rfl (m_hasPlan_n hi hn' hp) rfl (by omega) (Nat.le_of_ble_eq_true rfl) (Nat.le_of_ble_eq_true rfl) (Nat.le_of_ble_eq_true rfl) rfl rfl ?_
    refine tk_if_ne (pc := 76) (tgt := 83) d_M_take_76 (by decide) (fun hd => ?_) (fun hd => ?_)
    · exact absurd rfl hd
    refine tk_iconst (pc := 79) (v := 1) d_M_take_79 (by decide) ?_
    refine tk_goto (pc := 80) (tgt := 84) d_M_take_80 (by decide) ?_
    refine tk_iload_n (pc := 84) d_M_take_84 rfl ?_
    refine tk_callVr (pc := 85) d_M_take_85 l_M_76 k_M_throwing rfl rfl rfl (m_t2 (z := rfw pl ms i G)) rfl (by omega) (Nat.le_of_ble_eq_true rfl) (Nat.le_of_ble_eq_true rfl) (Nat.le_of_ble_eq_true rfl) rfl rfl ?_
    refine tk_if_eq (pc := 88) (tgt := 93) d_M_take_88 (by decide) (fun he => ?_) (fun he => ?_)
    · exact absurd he (by decide)
    refine tk_iconst (pc := 91) (v := 0) d_M_take_91 (by decide) ?_
    exact tk_ireturn (pc := 92) d_M_take_92 rfl rfl (Nat.le_of_ble_eq_true rfl) (Nat.le_of_ble_eq_true rfl) ⟨rfl, rfl⟩
  · exact absurd hb (by decide)
theorem r_take_3 {i G : Nat} (hn' : n < 5) (hG : G < 6) (hi : i < n) (hp : ¬ pc i < 0) (hf : ¬ rfw pl ms i G = 0) : tk_M y_M_take w_M_take 10 0 0 [.ref 29, .int (nI i)] (wd g h p c (md th (nI G) mk mc ms ml ma mb (nI n) le gr mo hl hu pc pl aq sp st nw br o)) (tk_det (.inl (some (.int 0))) (wd g h p c (md 3 (nI G) mk mc ms ml ma mb (nI n) le gr mo hl hu pc pl aq sp st nw br o))) := by
  refine tk_M.of (lv := [some (.ref 29), some (.int (nI i)), none, none, none]) (by decide) (Nat.le_of_ble_eq_true rfl) rfl ?_
  refine tk_aload_n (pc := 0) d_M_take_0 rfl ?_
  refine tk_iload_n (pc := 1) d_M_take_1 rfl ?_
  refine tk_callVr (pc := 2) d_M_take_2 l_M_92 k_M_isHeat rfl rfl rfl (m_isHeat_y hi (by omega)) rfl (by omega) (Nat.le_of_ble_eq_true rfl) (Nat.le_of_ble_eq_true rfl) (Nat.le_of_ble_eq_true rfl) rfl rfl ?_
  refine tk_if_ne (pc := 5) (tgt := 12) d_M_take_5 (by decide) (fun hb => ?_) (fun hb => ?_)
  · refine tk_iconst (pc := 12) (v := 0) d_M_take_12 (by decide) ?_
    refine tk_istore2 (pc := 13) d_M_take_13 rfl (by decide) ?_
    refine tk_iconst (pc := 14) (v := 0) d_M_take_14 (by decide) ?_
    refine tk_istore3 (pc := 15) d_M_take_15 rfl (by decide) ?_
    refine tk_iconst (pc := 16) (v := 0) d_M_take_16 (by decide) ?_
    refine tk_istore4 (pc := 17) d_M_take_17 rfl (by decide) ?_
    refine m_take_few' hG (by omega) ?_
    refine tk_aload_n (pc := 69) d_M_take_69 rfl ?_
    refine tk_iload_n (pc := 70) d_M_take_70 rfl ?_
    refine tk_aload_n (pc := 71) d_M_take_71 rfl ?_
    refine tk_iload_n (pc := 72) d_M_take_72 rfl ?_
    refine tk_callVr (pc := 73) d_M_take_73 l_M_122 k_M_hasPlan rfl rfl rfl (m_hasPlan_y hi hn' hp) rfl (by omega) (Nat.le_of_ble_eq_true rfl) (Nat.le_of_ble_eq_true rfl) (Nat.le_of_ble_eq_true rfl) rfl rfl ?_
    refine tk_if_ne (pc := 76) (tgt := 83) d_M_take_76 (by decide) (fun hd => ?_) (fun hd => ?_)
    · refine tk_iconst (pc := 83) (v := 0) d_M_take_83 (by decide) ?_
      refine tk_iload_n (pc := 84) d_M_take_84 rfl ?_
      refine tk_callVr (pc := 85) d_M_take_85 l_M_76 k_M_throwing rfl rfl rfl (m_throwing (x := 0) (y := 0) (z := rfw pl ms i G)) rfl (by omega) (Nat.le_of_ble_eq_true rfl) (Nat.le_of_ble_eq_true rfl) (Nat.le_of_ble_eq_true rfl) rfl rfl ?_
      rw [show thF 0 0 (rfw pl ms i G) = 3 from by simp only [thF]; rw [if_neg hf]; rfl]
      refine tk_if_eq (pc := 88) (tgt := 93) d_M_take_88 (by decide) (fun he => ?_) (fun he => ?_)
      · exact absurd he (by decide)
      refine tk_iconst (pc := 91) (v := 0) d_M_take_91 (by decide) ?_
      exact tk_ireturn (pc := 92) d_M_take_92 rfl rfl (Nat.le_of_ble_eq_true rfl) (Nat.le_of_ble_eq_true rfl) ⟨rfl, rfl⟩
    · exact absurd hd (by decide)
  · exact absurd hb (by decide)
theorem tkf_s' (gs bd : Ar) (ht i : Nat) : upd (tkf gs bd ht i) i (tkf gs bd ht i i - bd (5 * ht + i)) = tkf gs bd ht (i + 1) := by
  rw [Nat.mul_comm 5 ht]; exact tkf_s gs bd ht i
theorem r_take_0 {i G : Nat} (hn' : n < 5) (hG : G < 6) (hi : i < n) (hp : ¬ pc i < 0) (hf : rfw pl ms i G = 0) : tk_M y_M_take w_M_take 10 0 0 [.ref 29, .int (nI i)] (wd g h p c (md th (nI G) mk mc ms ml ma mb (nI n) le gr mo hl hu pc pl aq sp st nw br o)) (tk_det (.inl (some (.int (pc i)))) (wd g h p c (md 0 (nI G) mk mc (tkf ms pl i G) ml ma mb (nI n) le gr mo hl hu (upd pc i (-1)) pl aq sp st nw br o))) := by
  refine tk_M.of (lv := [some (.ref 29), some (.int (nI i)), none, none, none]) (by decide) (Nat.le_of_ble_eq_true rfl) rfl ?_
  refine tk_aload_n (pc := 0) d_M_take_0 rfl ?_
  refine tk_iload_n (pc := 1) d_M_take_1 rfl ?_
  refine tk_callVr (pc := 2) d_M_take_2 l_M_92 k_M_isHeat rfl rfl rfl (m_isHeat_y hi (by omega)) rfl (by omega) (Nat.le_of_ble_eq_true rfl) (Nat.le_of_ble_eq_true rfl) (Nat.le_of_ble_eq_true rfl) rfl rfl ?_
  refine tk_if_ne (pc := 5) (tgt := 12) d_M_take_5 (by decide) (fun hb => ?_) (fun hb => ?_)
  · refine tk_iconst (pc := 12) (v := 0) d_M_take_12 (by decide) ?_
    refine tk_istore2 (pc := 13) d_M_take_13 rfl (by decide) ?_
    refine tk_iconst (pc := 14) (v := 0) d_M_take_14 (by decide) ?_
    refine tk_istore3 (pc := 15) d_M_take_15 rfl (by decide) ?_
    refine tk_iconst (pc := 16) (v := 0) d_M_take_16 (by decide) ?_
    refine tk_istore4 (pc := 17) d_M_take_17 rfl (by decide) ?_
    refine m_take_few' hG (by omega) ?_
    refine tk_aload_n (pc := 69) d_M_take_69 rfl ?_
    refine tk_iload_n (pc := 70) d_M_take_70 rfl ?_
    refine tk_aload_n (pc := 71) d_M_take_71 rfl ?_
    refine tk_iload_n (pc := 72) d_M_take_72 rfl ?_
    refine tk_callVr (pc := 73) d_M_take_73 l_M_122 k_M_hasPlan rfl rfl rfl (m_hasPlan_y hi hn' hp) rfl (by omega) (Nat.le_of_ble_eq_true rfl) (Nat.le_of_ble_eq_true rfl) (Nat.le_of_ble_eq_true rfl) rfl rfl ?_
    refine tk_if_ne (pc := 76) (tgt := 83) d_M_take_76 (by decide) (fun hd => ?_) (fun hd => ?_)
    · refine tk_iconst (pc := 83) (v := 0) d_M_take_83 (by decide) ?_
      refine tk_iload_n (pc := 84) d_M_take_84 rfl ?_
      rw [hf]
      refine tk_callVr (pc := 85) d_M_take_85 l_M_76 k_M_throwing rfl rfl rfl (m_t0) rfl (by omega) (Nat.le_of_ble_eq_true rfl) (Nat.le_of_ble_eq_true rfl) (Nat.le_of_ble_eq_true rfl) rfl rfl ?_
      refine tk_if_eq (pc := 88) (tgt := 93) d_M_take_88 (by decide) (fun he => ?_) (fun he => ?_)
      · refine tk_iconst (pc := 93) (v := 0) d_M_take_93 (by decide) ?_
        refine tk_istore4 (pc := 94) d_M_take_94 rfl (by decide) ?_
        have key : ∀ (m k : Nat), k + m = G → tk_T y_M_take c_M_take 5 (some .int) [] 10 0 0 (fun _ => none) 0 0 (tk_det (.inl (some (.int (pc i)))) (wd g h p c (md 0 (nI G) mk mc (tkf ms pl i G) ml ma mb (nI n) le gr mo hl hu (upd pc i (-1)) pl aq sp st nw br o))) 96 [some (.ref 29), some (.int (nI i)), some (.int 0), some (.int 0), some (.int (nI k))] [] (wd g h p c (md 0 (nI G) mk mc (tkf ms pl i k) ml ma mb (nI n) le gr mo hl hu pc pl aq sp st nw br o)) := by
          intro m
          induction m with
          | zero =>
            intro k hk
            obtain rfl : k = G := by omega
            refine tk_iload (pc := 96) d_M_take_96 rfl ?_
            refine tk_aload_n (pc := 98) d_M_take_98 rfl ?_
            refine tk_get (pc := 99) d_M_take_99 f_M_60 rfl rfl ?_
            refine tk_icmp_ge (pc := 102) (tgt := 132) d_M_take_102 (by decide) (fun hx => ?_) (fun hx => ?_)
            · refine tk_aload_n (pc := 132) d_M_take_132 rfl ?_
              refine tk_get (pc := 133) d_M_take_133 f_M_43 rfl rfl ?_
              refine tk_iload_n (pc := 136) d_M_take_136 rfl ?_
              refine tk_iald (pc := 137) i d_M_take_137 rfl rfl (by omega) (by decide) ?_
              refine tk_istore4 (pc := 138) d_M_take_138 rfl (by decide) ?_
              refine tk_aload_n (pc := 140) d_M_take_140 rfl ?_
              refine tk_get (pc := 141) d_M_take_141 f_M_43 rfl rfl ?_
              refine tk_iload_n (pc := 144) d_M_take_144 rfl ?_
              refine tk_iconst (pc := 145) (v := -1) d_M_take_145 (by decide) ?_
              refine tk_iast (pc := 146) i d_M_take_146 rfl rfl (by omega) (by decide) ?_
              refine tk_iload (pc := 147) d_M_take_147 rfl ?_
              exact tk_ireturn (pc := 149) d_M_take_149 rfl rfl (Nat.le_of_ble_eq_true rfl) (Nat.le_of_ble_eq_true rfl) ⟨rfl, rfl⟩
            · exact absurd (nI_le (Nat.le_refl _) (by omega)) hx
          | succ m ih =>
            intro k hk
            refine tk_iload (pc := 96) d_M_take_96 rfl ?_
            refine tk_aload_n (pc := 98) d_M_take_98 rfl ?_
            refine tk_get (pc := 99) d_M_take_99 f_M_60 rfl rfl ?_
            refine tk_icmp_ge (pc := 102) (tgt := 132) d_M_take_102 (by decide) (fun hx => ?_) (fun hx => ?_)
            · exact absurd hx (nI_ge (by omega) (by omega))
            refine tk_aload_n (pc := 105) d_M_take_105 rfl ?_
            refine tk_get (pc := 106) d_M_take_106 f_M_16 rfl rfl ?_
            refine tk_iload (pc := 109) d_M_take_109 rfl ?_
            refine tk_dup2 (pc := 111) d_M_take_111 rfl rfl ?_
            refine tk_iald (pc := 112) k d_M_take_112 rfl rfl (by omega) (by decide) ?_
            refine tk_aload_n (pc := 113) d_M_take_113 rfl ?_
            refine tk_get (pc := 114) d_M_take_114 f_M_46 rfl rfl ?_
            refine tk_iconst (pc := 117) (v := 5) d_M_take_117 (by decide) ?_
            refine tk_iload_n (pc := 118) d_M_take_118 rfl ?_
            refine tk_imul (pc := 119) d_M_take_119 ?_
            refine tk_iload (pc := 120) d_M_take_120 rfl ?_
            refine tk_iadd (pc := 122) d_M_take_122 ?_
            refine tk_iald (pc := 123) (5*i+k) d_M_take_123 rfl (ixma 5 i k) (by omega) (by decide) ?_
            refine tk_isub (pc := 124) d_M_take_124 ?_
            refine tk_iast (pc := 125) k d_M_take_125 rfl rfl (by omega) (by decide) ?_
            refine tk_jinc4 (pc := 126) d_M_take_126 rfl (by decide) ?_
            refine tk_goto (pc := 129) (tgt := 96) d_M_take_129 (by decide) ?_
            refine tk_eq rfl (by rw [inc1]) rfl ?_ (ih (k + 1) (by omega))
            rw [← tkf_s']; rfl
        exact tk_eq rfl rfl rfl (by rw [tkf_0]) (key G 0 (by omega))
      · exact absurd rfl he
    · exact absurd hd (by decide)
  · exact absurd hb (by decide)
/-! isSome -/
theorem m_isSome {out : Int32} : tk_M y_M_isSome w_M_isSome 0 0 0 [.ref 29, .int out] (wd g h p c (md th gn mk mc ms ml ma mb hn le gr mo hl hu pc pl aq sp st nw br o)) (tk_det (.inl (some (.int (ism br out 2048)))) (wd g h p c (md th gn mk mc ms ml ma mb hn le gr mo hl hu pc pl aq sp st nw br o))) := by
  refine tk_M.of (lv := [some (.ref 29), some (.int out), none, none]) (by decide) (Nat.le_of_ble_eq_true rfl) rfl ?_
  refine tk_iconst (pc := 0) (v := 0) d_M_isSome_0 (by decide) ?_
  refine tk_istore2 (pc := 1) d_M_isSome_1 rfl (by decide) ?_
  refine tk_iconst (pc := 2) (v := 0) d_M_isSome_2 (by decide) ?_
  refine tk_istore3 (pc := 3) d_M_isSome_3 rfl (by decide) ?_
  have key : ∀ (m k : Nat), k + m = 2048 → tk_T y_M_isSome c_M_isSome 4 (some .boolean) [] 0 0 0 (fun _ => none) 0 0 (tk_det (.inl (some (.int (ism br out 2048)))) (wd g h p c (md th gn mk mc ms ml ma mb hn le gr mo hl hu pc pl aq sp st nw br o))) 4 [some (.ref 29), some (.int out), some (.int (ism br out k)), some (.int (nI k))] [] (wd g h p c (md th gn mk mc ms ml ma mb hn le gr mo hl hu pc pl aq sp st nw br o)) := by
    intro m
    induction m with
    | zero =>
      intro k hk
      obtain rfl : k = 2048 := by omega
      refine tk_iload_n (pc := 4) d_M_isSome_4 rfl ?_
      refine tk_sipush (pc := 5) (v := 2048) d_M_isSome_5 (by decide) ?_
      refine tk_icmp_ge (pc := 8) (tgt := 44) d_M_isSome_8 (by decide) (fun hb => ?_) (fun hb => ?_)
      · refine tk_iload_n (pc := 44) d_M_isSome_44 rfl ?_
        have e1 : ism br out 2048 = 0 ∨ ism br out 2048 = 1 := by
          show (if ism br out 2047 = 0 then (if br 2047 = 0 then (0 : Int32) else if nI 2047 &&& (out ^^^ -1) = 0 then 1 else 0) else 1) = 0 ∨ (if ism br out 2047 = 0 then (if br 2047 = 0 then (0 : Int32) else if nI 2047 &&& (out ^^^ -1) = 0 then 1 else 0) else 1) = 1
          repeat' split
          all_goals first | exact Or.inl rfl | exact Or.inr rfl
        generalize ism br out 2048 = q at e1
        rcases e1 with rfl | rfl
        · exact tk_ireturn (pc := 45) d_M_isSome_45 rfl rfl (Nat.le_of_ble_eq_true rfl) (Nat.le_of_ble_eq_true rfl) ⟨rfl, rfl⟩
        · exact tk_ireturn (pc := 45) d_M_isSome_45 rfl rfl (Nat.le_of_ble_eq_true rfl) (Nat.le_of_ble_eq_true rfl) ⟨rfl, rfl⟩
      · exact absurd (show nI 2048 ≤ nI 2048 from by decide) hb
    | succ m ih =>
      intro k hk
      refine tk_iload_n (pc := 4) d_M_isSome_4 rfl ?_
      refine tk_sipush (pc := 5) (v := 2048) d_M_isSome_5 (by decide) ?_
      refine tk_icmp_ge (pc := 8) (tgt := 44) d_M_isSome_8 (by decide) (fun hb => ?_) (fun hb => ?_)
      · exact absurd ((nI_leI (a := 2048) (b := k) (by omega) (by omega)).mp hb) (by omega)
      refine tk_iload_n (pc := 11) d_M_isSome_11 rfl ?_
      have nx : ∀ q : Int32, q = ism br out (k + 1) → tk_T y_M_isSome c_M_isSome 4 (some .boolean) [] 0 0 0 (fun _ => none) 0 0 (tk_det (.inl (some (.int (ism br out 2048)))) (wd g h p c (md th gn mk mc ms ml ma mb hn le gr mo hl hu pc pl aq sp st nw br o))) 37 [some (.ref 29), some (.int out), some (.int (ism br out k)), some (.int (nI k))] [.int q] (wd g h p c (md th gn mk mc ms ml ma mb hn le gr mo hl hu pc pl aq sp st nw br o)) := by
        intro q hq
        refine tk_istore2 (pc := 37) d_M_isSome_37 rfl (by decide) ?_
        refine tk_jinc3 (pc := 38) d_M_isSome_38 rfl (by decide) ?_
        refine tk_goto (pc := 41) (tgt := 4) d_M_isSome_41 (by decide) ?_
        exact tk_eq rfl (by rw [inc1, hq]) rfl rfl (ih (k + 1) (by omega))
      refine tk_if_ne (pc := 12) (tgt := 32) d_M_isSome_12 (by decide) (fun hc => ?_) (fun hc => ?_)
      · refine tk_iconst (pc := 32) (v := 1) d_M_isSome_32 (by decide) ?_
        refine tk_goto (pc := 33) (tgt := 37) d_M_isSome_33 (by decide) ?_
        exact nx 1 (by simp only [ism]; rw [if_neg hc])
      refine tk_aload_n (pc := 15) d_M_isSome_15 rfl ?_
      refine tk_get (pc := 16) d_M_isSome_16 f_M_52 rfl rfl ?_
      refine tk_iload_n (pc := 19) d_M_isSome_19 rfl ?_
      refine tk_zald (pc := 20) k d_M_isSome_20 rfl rfl (by omega) (by decide) ?_
      refine tk_if_eq (pc := 21) (tgt := 36) d_M_isSome_21 (by decide) (fun hd => ?_) (fun hd => ?_)
      · refine tk_iconst (pc := 36) (v := 0) d_M_isSome_36 (by decide) ?_
        exact nx 0 (by simp only [ism]; rw [if_pos hc, if_pos hd])
      refine tk_iload_n (pc := 24) d_M_isSome_24 rfl ?_
      refine tk_iload_n (pc := 25) d_M_isSome_25 rfl ?_
      refine tk_iconst (pc := 26) (v := -1) d_M_isSome_26 (by decide) ?_
      refine tk_ixor (pc := 27) d_M_isSome_27 ?_
      refine tk_iand (pc := 28) d_M_isSome_28 ?_
      refine tk_if_ne (pc := 29) (tgt := 36) d_M_isSome_29 (by decide) (fun he => ?_) (fun he => ?_)
      · refine tk_iconst (pc := 36) (v := 0) d_M_isSome_36 (by decide) ?_
        exact nx 0 (by simp only [ism]; rw [if_pos hc, if_neg hd, if_neg he])
      · refine tk_iconst (pc := 32) (v := 1) d_M_isSome_32 (by decide) ?_
        refine tk_goto (pc := 33) (tgt := 37) d_M_isSome_33 (by decide) ?_
        exact nx 1 (by simp only [ism]; rw [if_pos hc, if_neg hd, if_pos he])
  exact key 2048 0 (by omega)
end REF4
