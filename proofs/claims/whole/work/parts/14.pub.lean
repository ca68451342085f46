/-! ===== the public methods: plans ===== -/
def pkl (bd gk : Ar) (ht : Nat) : Nat → Int64
  | 0 => 0
  | i + 1 => pkl bd gk ht i + (bd (ht * 5 + i)).toInt64 * (gk i).toInt64
def psh (bd gk sh : Ar) (ht e : Nat) : Nat → Int64
  | 0 => 0
  | i + 1 => psh bd gk sh ht e i + (bd (ht * 5 + i)).toInt64 * (gk i).toInt64 * (sh (i * 4 + e)).toInt64
def cdF : Nat → Int64 → Int64 → Int64
  | 0, a, _ => a
  | m + 1, a, b => if b = 0 then a else cdF m b (a - a / b * b)
def cdv (a b : Int64) : Int64 := if (1 : Int64) < cdF 100 a b then cdF 100 a b else 1
def bdF (g : sG) (lw : Int32) : Nat → Int64
  | 0 => -1
  | i + 1 => if 0 < rmin g i ∧ (0 : Int64) < (g.2.1 i).toInt64 then
      (if bdF g lw i = -1 then (lw.toInt64 * (g.2.2.1 i).toInt64 + (g.2.1 i).toInt64 - 1) / (g.2.1 i).toInt64
       else if (lw.toInt64 * (g.2.2.1 i).toInt64 + (g.2.1 i).toInt64 - 1) / (g.2.1 i).toInt64 < bdF g lw i then (lw.toInt64 * (g.2.2.1 i).toInt64 + (g.2.1 i).toInt64 - 1) / (g.2.1 i).toInt64 else bdF g lw i)
      else bdF g lw i
def enF (gs bd : Ar) (ht : Nat) : Nat → Nat → Int32
  | 0, _ => 1
  | m + 1, i => if bd (ht * 5 + i) ≤ gs i then enF gs bd ht m (i + 1) else 0
def tkf (gs bd : Ar) (ht i : Nat) : Ar := fun j => if j < i then gs j - bd (ht * 5 + j) else gs j
theorem tkf_0 (gs bd : Ar) (ht : Nat) : tkf gs bd ht 0 = gs := by
  funext j; simp only [tkf]; rw [if_neg (by omega)]
theorem tkf_s (gs bd : Ar) (ht i : Nat) : upd (tkf gs bd ht i) i (tkf gs bd ht i i - bd (ht * 5 + i)) = tkf gs bd ht (i + 1) := by
  funext j
  simp only [upd, tkf]
  by_cases h1 : j = i
  · subst h1; rw [if_pos rfl, if_neg (by omega), if_pos (by omega)]
  · rw [if_neg h1]
    by_cases h2 : j < i
    · rw [if_pos h2, if_pos (by omega)]
    · rw [if_neg h2, if_neg (by omega)]
theorem m_cdv {w : tk_W} {a b : Int64} : tk_M y_CP_commonDivisor w_CP_commonDivisor 0 0 0 [.long a, .long b] w (tk_det (.inl (some (.long (cdv a b)))) w) := by
  refine tk_M.of (lv := [some (.long a), none, some (.long b), none, none, none, none, none, none, none, none]) (by decide) (Nat.le_of_ble_eq_true rfl) rfl ?_
  refine tk_lload_n (pc := 0) d_CP_commonDivisor_0 rfl ?_
  refine tk_lstore4 (pc := 1) d_CP_commonDivisor_1 rfl (by decide) ?_
  refine tk_lload_n (pc := 3) d_CP_commonDivisor_3 rfl ?_
  refine tk_lstore6 (pc := 4) d_CP_commonDivisor_4 rfl (by decide) ?_
  refine tk_iconst (pc := 6) (v := 0) d_CP_commonDivisor_6 (by decide) ?_
  refine tk_istore8 (pc := 7) d_CP_commonDivisor_7 rfl (by decide) ?_
  have key : ∀ (m i : Nat) (x z : Int64) (o9 o10 : Option Value), i + m = 100 → cdF m x z = cdF 100 a b → tk_T y_CP_commonDivisor c_CP_commonDivisor 11 (some .long) [] 0 0 0 (fun _ => none) 0 0 (tk_det (.inl (some (.long (cdv a b)))) w) 9 [some (.long a), none, some (.long b), none, some (.long x), none, some (.long z), none, some (.int (nI i)), o9, o10] [] w := by
    have fin : ∀ (i : Nat) (x z : Int64) (o9 o10 : Option Value), x = cdF 100 a b → tk_T y_CP_commonDivisor c_CP_commonDivisor 11 (some .long) [] 0 0 0 (fun _ => none) 0 0 (tk_det (.inl (some (.long (cdv a b)))) w) 44 [some (.long a), none, some (.long b), none, some (.long x), none, some (.long z), none, some (.int (nI i)), o9, o10] [] w := by
      intro i x z o9 o10 hx
      refine tk_lload (pc := 44) d_CP_commonDivisor_44 rfl ?_
      refine tk_lconst (pc := 46) (v := 1) d_CP_commonDivisor_46 (by decide) ?_
      refine tk_mmaxL (pc := 47) d_CP_commonDivisor_47 z_CP_maxL z_maxL1 z_math z_maxL2 (Nat.le_of_ble_eq_true rfl) (Nat.le_of_ble_eq_true rfl) (Nat.le_of_ble_eq_true rfl) ?_
      exact tk_lreturn (pc := 50) d_CP_commonDivisor_50 rfl (Nat.le_of_ble_eq_true rfl) (Nat.le_of_ble_eq_true rfl) ⟨by rw [hx]; rfl, rfl⟩
    intro m
    induction m with
    | zero =>
      intro i x z o9 o10 hi hz
      obtain rfl : i = 100 := by omega
      refine tk_iload (pc := 9) d_CP_commonDivisor_9 rfl ?_
      refine tk_bipush (pc := 11) (v := 100) d_CP_commonDivisor_11 (by decide) ?_
      refine tk_icmp_ge (pc := 13) (tgt := 44) d_CP_commonDivisor_13 (by decide) (fun hb => ?_) (fun hb => ?_)
      · exact fin _ _ _ _ _ hz
      · exact absurd (show nI 100 ≤ nI 100 from by decide) hb
    | succ m ih =>
      intro i x z o9 o10 hi hz
      refine tk_iload (pc := 9) d_CP_commonDivisor_9 rfl ?_
      refine tk_bipush (pc := 11) (v := 100) d_CP_commonDivisor_11 (by decide) ?_
      refine tk_icmp_ge (pc := 13) (tgt := 44) d_CP_commonDivisor_13 (by decide) (fun hb => ?_) (fun hb => ?_)
      · exact absurd ((nI_leI (a := 100) (b := i) (by omega) (by omega)).mp hb) (by omega)
      refine tk_lload (pc := 16) d_CP_commonDivisor_16 rfl ?_
      refine tk_lconst (pc := 18) (v := 0) d_CP_commonDivisor_18 (by decide) ?_
      refine tk_lcmp (pc := 19) d_CP_commonDivisor_19 ?_
      refine tk_if_eq (pc := 20) (tgt := 44) d_CP_commonDivisor_20 (by decide) (fun hc => ?_) (fun hc => ?_)
      · refine fin _ _ _ _ _ ?_
        rw [← hz]
        simp only [cdF]
        rw [if_pos ((lg_cmp_eq _ _).mp hc)]
      · have hz0 : ¬ z = 0 := fun q => hc ((lg_cmp_eq _ _).mpr q)
        refine tk_lload (pc := 23) d_CP_commonDivisor_23 rfl ?_
        refine tk_lload (pc := 25) d_CP_commonDivisor_25 rfl ?_
        refine tk_lrem (pc := 27) d_CP_commonDivisor_27 hz0 ?_
        refine tk_lstore9 (pc := 28) d_CP_commonDivisor_28 rfl (by decide) ?_
        refine tk_lload (pc := 30) d_CP_commonDivisor_30 rfl ?_
        refine tk_lstore4 (pc := 32) d_CP_commonDivisor_32 rfl (by decide) ?_
        refine tk_lload (pc := 34) d_CP_commonDivisor_34 rfl ?_
        refine tk_lstore6 (pc := 36) d_CP_commonDivisor_36 rfl (by decide) ?_
        refine tk_jinc8 (pc := 38) d_CP_commonDivisor_38 rfl (by decide) ?_
        refine tk_goto (pc := 41) (tgt := 9) d_CP_commonDivisor_41 (by decide) ?_
        refine tk_eq rfl (by rw [inc1]) rfl rfl (ih (i + 1) z (x - x / z * z) (some (.long (x - x / z * z))) none (by omega) ?_)
        rw [← hz]
        simp only [cdF]
        rw [if_neg hz0]
  exact key 100 0 a b none none rfl rfl
section PUB3
variable {gk gc gs gl ga gb : Ar} {gn : Nat} {p : sP} {c : sC} {t : tk_W} {lo hi ls hs mb pc bd : Ar} {n : Nat}
theorem m_pkl {ht : Nat} (hg : gn < 6) (hh : ht < 4) : tk_M y_CP_plannedKilos w_CP_plannedKilos 0 0 0 [.ref 0, .int (nI ht)] (wd (nI gn, gk, gc, gs, gl, ga, gb) (nI n, lo, hi, ls, hs, mb, pc, bd) p c t) (tk_det (.inl (some (.long (pkl bd gk ht gn)))) (wd (nI gn, gk, gc, gs, gl, ga, gb) (nI n, lo, hi, ls, hs, mb, pc, bd) p c t)) := by
  refine tk_M.of (lv := [some (.ref 0), some (.int (nI ht)), none, none, none]) (by decide) (Nat.le_of_ble_eq_true rfl) rfl ?_
  refine tk_lconst (pc := 0) (v := 0) d_CP_plannedKilos_0 (by decide) ?_
  refine tk_lstore2 (pc := 1) d_CP_plannedKilos_1 rfl (by decide) ?_
  refine tk_iconst (pc := 2) (v := 0) d_CP_plannedKilos_2 (by decide) ?_
  refine tk_istore4 (pc := 3) d_CP_plannedKilos_3 rfl (by decide) ?_
  have key : ∀ (m i : Nat), i + m = gn → tk_T y_CP_plannedKilos c_CP_plannedKilos 5 (some .long) [] 0 0 0 (fun _ => none) 0 0 (tk_det (.inl (some (.long (pkl bd gk ht gn)))) (wd (nI gn, gk, gc, gs, gl, ga, gb) (nI n, lo, hi, ls, hs, mb, pc, bd) p c t)) 5 [some (.ref 0), some (.int (nI ht)), some (.long (pkl bd gk ht i)), none, some (.int (nI i))] [] (wd (nI gn, gk, gc, gs, gl, ga, gb) (nI n, lo, hi, ls, hs, mb, pc, bd) p c t) := by
    intro m
    induction m with
    | zero =>
      intro i hi'
      obtain rfl : i = gn := by omega
      refine tk_iload (pc := 5) d_CP_plannedKilos_5 rfl ?_
      refine tk_aload_n (pc := 7) d_CP_plannedKilos_7 rfl ?_
      refine tk_get (pc := 8) d_CP_plannedKilos_8 f_CP_10 rfl rfl ?_
      refine tk_get (pc := 11) d_CP_plannedKilos_11 f_CP_37 rfl rfl ?_
      refine tk_icmp_ge (pc := 14) (tgt := 53) d_CP_plannedKilos_14 (by decide) (fun hb => ?_) (fun hb => ?_)
      · refine tk_lload_n (pc := 53) d_CP_plannedKilos_53 rfl ?_
        exact tk_lreturn (pc := 54) d_CP_plannedKilos_54 rfl (Nat.le_of_ble_eq_true rfl) (Nat.le_of_ble_eq_true rfl) ⟨rfl, rfl⟩
      · exact absurd ((nI_leI (a := i) (b := i) (by omega) (by omega)).mpr (Nat.le_refl _)) hb
    | succ m ih =>
      intro i hi'
      refine tk_iload (pc := 5) d_CP_plannedKilos_5 rfl ?_
      refine tk_aload_n (pc := 7) d_CP_plannedKilos_7 rfl ?_
      refine tk_get (pc := 8) d_CP_plannedKilos_8 f_CP_10 rfl rfl ?_
      refine tk_get (pc := 11) d_CP_plannedKilos_11 f_CP_37 rfl rfl ?_
      refine tk_icmp_ge (pc := 14) (tgt := 53) d_CP_plannedKilos_14 (by decide) (fun hb => ?_) (fun hb => ?_)
      · exact absurd ((nI_leI (a := gn) (b := i) (by omega) (by omega)).mp hb) (by omega)
      refine tk_lload_n (pc := 17) d_CP_plannedKilos_17 rfl ?_
      refine tk_aload_n (pc := 18) d_CP_plannedKilos_18 rfl ?_
      refine tk_get (pc := 19) d_CP_plannedKilos_19 f_CP_19 rfl rfl ?_
      refine tk_get (pc := 22) d_CP_plannedKilos_22 f_CP_118 rfl rfl ?_
      refine tk_iload_n (pc := 25) d_CP_plannedKilos_25 rfl ?_
      refine tk_iconst (pc := 26) (v := 5) d_CP_plannedKilos_26 (by decide) ?_
      refine tk_imul (pc := 27) d_CP_plannedKilos_27 ?_
      refine tk_iload (pc := 28) d_CP_plannedKilos_28 rfl ?_
      refine tk_iadd (pc := 30) d_CP_plannedKilos_30 ?_
      refine tk_iald (pc := 31) (ht*5+i) d_CP_plannedKilos_31 rfl (ixma ht 5 i) (by omega) (by decide) ?_
      refine tk_i2l (pc := 32) d_CP_plannedKilos_32 ?_
      refine tk_aload_n (pc := 33) d_CP_plannedKilos_33 rfl ?_
      refine tk_get (pc := 34) d_CP_plannedKilos_34 f_CP_10 rfl rfl ?_
      refine tk_get (pc := 37) d_CP_plannedKilos_37 f_CP_135 rfl rfl ?_
      refine tk_iload (pc := 40) d_CP_plannedKilos_40 rfl ?_
      refine tk_iald (pc := 42) i d_CP_plannedKilos_42 rfl rfl (by omega) (by decide) ?_
      refine tk_i2l (pc := 43) d_CP_plannedKilos_43 ?_
      refine tk_lmul (pc := 44) d_CP_plannedKilos_44 ?_
      refine tk_ladd (pc := 45) d_CP_plannedKilos_45 ?_
      refine tk_lstore2 (pc := 46) d_CP_plannedKilos_46 rfl (by decide) ?_
      refine tk_jinc4 (pc := 47) d_CP_plannedKilos_47 rfl (by decide) ?_
      refine tk_goto (pc := 50) (tgt := 5) d_CP_plannedKilos_50 (by decide) ?_
      exact tk_eq rfl (by rw [inc1]; rfl) rfl rfl (ih (i + 1) (by omega))
  exact key gn 0 (by omega)
theorem m_pshL {ht e : Nat} (hg : gn < 6) (hh : ht < 4) (he : e < 4) : tk_M y_CP_plannedShares w_CP_plannedShares 0 0 0 [.ref 0, .int (nI ht), .int (nI e), .ref 6] (wd (nI gn, gk, gc, gs, gl, ga, gb) (nI n, lo, hi, ls, hs, mb, pc, bd) p c t) (tk_det (.inl (some (.long (psh bd gk ga ht e gn)))) (wd (nI gn, gk, gc, gs, gl, ga, gb) (nI n, lo, hi, ls, hs, mb, pc, bd) p c t)) := by
  refine tk_M.of (lv := [some (.ref 0), some (.int (nI ht)), some (.int (nI e)), some (.ref 6), none, none, none, none, none]) (by decide) (Nat.le_of_ble_eq_true rfl) rfl ?_
  refine tk_lconst (pc := 0) (v := 0) d_CP_plannedShares_0 (by decide) ?_
  refine tk_lstore4 (pc := 1) d_CP_plannedShares_1 rfl (by decide) ?_
  refine tk_iconst (pc := 3) (v := 0) d_CP_plannedShares_3 (by decide) ?_
  refine tk_istore6 (pc := 4) d_CP_plannedShares_4 rfl (by decide) ?_
  have key : ∀ (m i : Nat) (o7 o8 : Option Value), i + m = gn → tk_T y_CP_plannedShares c_CP_plannedShares 9 (some .long) [] 0 0 0 (fun _ => none) 0 0 (tk_det (.inl (some (.long (psh bd gk ga ht e gn)))) (wd (nI gn, gk, gc, gs, gl, ga, gb) (nI n, lo, hi, ls, hs, mb, pc, bd) p c t)) 6 [some (.ref 0), some (.int (nI ht)), some (.int (nI e)), some (.ref 6), some (.long (psh bd gk ga ht e i)), none, some (.int (nI i)), o7, o8] [] (wd (nI gn, gk, gc, gs, gl, ga, gb) (nI n, lo, hi, ls, hs, mb, pc, bd) p c t) := by
    intro m
    induction m with
    | zero =>
      intro i o7 o8 hi'
      obtain rfl : i = gn := by omega
      refine tk_iload (pc := 6) d_CP_plannedShares_6 rfl ?_
      refine tk_aload_n (pc := 8) d_CP_plannedShares_8 rfl ?_
      refine tk_get (pc := 9) d_CP_plannedShares_9 f_CP_10 rfl rfl ?_
      refine tk_get (pc := 12) d_CP_plannedShares_12 f_CP_37 rfl rfl ?_
      refine tk_icmp_ge (pc := 15) (tgt := 70) d_CP_plannedShares_15 (by decide) (fun hb => ?_) (fun hb => ?_)
      · refine tk_lload (pc := 70) d_CP_plannedShares_70 rfl ?_
        exact tk_lreturn (pc := 72) d_CP_plannedShares_72 rfl (Nat.le_of_ble_eq_true rfl) (Nat.le_of_ble_eq_true rfl) ⟨rfl, rfl⟩
      · exact absurd ((nI_leI (a := i) (b := i) (by omega) (by omega)).mpr (Nat.le_refl _)) hb
    | succ m ih =>
      intro i o7 o8 hi'
      refine tk_iload (pc := 6) d_CP_plannedShares_6 rfl ?_
      refine tk_aload_n (pc := 8) d_CP_plannedShares_8 rfl ?_
      refine tk_get (pc := 9) d_CP_plannedShares_9 f_CP_10 rfl rfl ?_
      refine tk_get (pc := 12) d_CP_plannedShares_12 f_CP_37 rfl rfl ?_
      refine tk_icmp_ge (pc := 15) (tgt := 70) d_CP_plannedShares_15 (by decide) (fun hb => ?_) (fun hb => ?_)
      · exact absurd ((nI_leI (a := gn) (b := i) (by omega) (by omega)).mp hb) (by omega)
      refine tk_aload_n (pc := 18) d_CP_plannedShares_18 rfl ?_
      refine tk_get (pc := 19) d_CP_plannedShares_19 f_CP_19 rfl rfl ?_
      refine tk_get (pc := 22) d_CP_plannedShares_22 f_CP_118 rfl rfl ?_
      refine tk_iload_n (pc := 25) d_CP_plannedShares_25 rfl ?_
      refine tk_iconst (pc := 26) (v := 5) d_CP_plannedShares_26 (by decide) ?_
      refine tk_imul (pc := 27) d_CP_plannedShares_27 ?_
      refine tk_iload (pc := 28) d_CP_plannedShares_28 rfl ?_
      refine tk_iadd (pc := 30) d_CP_plannedShares_30 ?_
      refine tk_iald (pc := 31) (ht*5+i) d_CP_plannedShares_31 rfl (ixma ht 5 i) (by omega) (by decide) ?_
      refine tk_i2l (pc := 32) d_CP_plannedShares_32 ?_
      refine tk_aload_n (pc := 33) d_CP_plannedShares_33 rfl ?_
      refine tk_get (pc := 34) d_CP_plannedShares_34 f_CP_10 rfl rfl ?_
      refine tk_get (pc := 37) d_CP_plannedShares_37 f_CP_135 rfl rfl ?_
      refine tk_iload (pc := 40) d_CP_plannedShares_40 rfl ?_
      refine tk_iald (pc := 42) i d_CP_plannedShares_42 rfl rfl (by omega) (by decide) ?_
      refine tk_i2l (pc := 43) d_CP_plannedShares_43 ?_
      refine tk_lmul (pc := 44) d_CP_plannedShares_44 ?_
      refine tk_lstore7 (pc := 45) d_CP_plannedShares_45 rfl (by decide) ?_
      refine tk_lload (pc := 47) d_CP_plannedShares_47 rfl ?_
      refine tk_lload (pc := 49) d_CP_plannedShares_49 rfl ?_
      refine tk_aload_n (pc := 51) d_CP_plannedShares_51 rfl ?_
      refine tk_iload (pc := 52) d_CP_plannedShares_52 rfl ?_
      refine tk_iconst (pc := 54) (v := 4) d_CP_plannedShares_54 (by decide) ?_
      refine tk_imul (pc := 55) d_CP_plannedShares_55 ?_
      refine tk_iload_n (pc := 56) d_CP_plannedShares_56 rfl ?_
      refine tk_iadd (pc := 57) d_CP_plannedShares_57 ?_
      refine tk_iald (pc := 58) (i*4+e) d_CP_plannedShares_58 rfl (ixma i 4 e) (by omega) (by decide) ?_
      refine tk_i2l (pc := 59) d_CP_plannedShares_59 ?_
      refine tk_lmul (pc := 60) d_CP_plannedShares_60 ?_
      refine tk_ladd (pc := 61) d_CP_plannedShares_61 ?_
      refine tk_lstore4 (pc := 62) d_CP_plannedShares_62 rfl (by decide) ?_
      refine tk_jinc6 (pc := 64) d_CP_plannedShares_64 rfl (by decide) ?_
      refine tk_goto (pc := 67) (tgt := 6) d_CP_plannedShares_67 (by decide) ?_
      exact tk_eq rfl (by rw [inc1]; rfl) rfl rfl (ih (i + 1) _ _ (by omega))
  exact key gn 0 none none (by omega)
theorem m_pshH {ht e : Nat} (hg : gn < 6) (hh : ht < 4) (he : e < 4) : tk_M y_CP_plannedShares w_CP_plannedShares 0 0 0 [.ref 0, .int (nI ht), .int (nI e), .ref 7] (wd (nI gn, gk, gc, gs, gl, ga, gb) (nI n, lo, hi, ls, hs, mb, pc, bd) p c t) (tk_det (.inl (some (.long (psh bd gk gb ht e gn)))) (wd (nI gn, gk, gc, gs, gl, ga, gb) (nI n, lo, hi, ls, hs, mb, pc, bd) p c t)) := by
  refine tk_M.of (lv := [some (.ref 0), some (.int (nI ht)), some (.int (nI e)), some (.ref 7), none, none, none, none, none]) (by decide) (Nat.le_of_ble_eq_true rfl) rfl ?_
  refine tk_lconst (pc := 0) (v := 0) d_CP_plannedShares_0 (by decide) ?_
  refine tk_lstore4 (pc := 1) d_CP_plannedShares_1 rfl (by decide) ?_
  refine tk_iconst (pc := 3) (v := 0) d_CP_plannedShares_3 (by decide) ?_
  refine tk_istore6 (pc := 4) d_CP_plannedShares_4 rfl (by decide) ?_
  have key : ∀ (m i : Nat) (o7 o8 : Option Value), i + m = gn → tk_T y_CP_plannedShares c_CP_plannedShares 9 (some .long) [] 0 0 0 (fun _ => none) 0 0 (tk_det (.inl (some (.long (psh bd gk gb ht e gn)))) (wd (nI gn, gk, gc, gs, gl, ga, gb) (nI n, lo, hi, ls, hs, mb, pc, bd) p c t)) 6 [some (.ref 0), some (.int (nI ht)), some (.int (nI e)), some (.ref 7), some (.long (psh bd gk gb ht e i)), none, some (.int (nI i)), o7, o8] [] (wd (nI gn, gk, gc, gs, gl, ga, gb) (nI n, lo, hi, ls, hs, mb, pc, bd) p c t) := by
    intro m
    induction m with
    | zero =>
      intro i o7 o8 hi'
      obtain rfl : i = gn := by omega
      refine tk_iload (pc := 6) d_CP_plannedShares_6 rfl ?_
      refine tk_aload_n (pc := 8) d_CP_plannedShares_8 rfl ?_
      refine tk_get (pc := 9) d_CP_plannedShares_9 f_CP_10 rfl rfl ?_
      refine tk_get (pc := 12) d_CP_plannedShares_12 f_CP_37 rfl rfl ?_
      refine tk_icmp_ge (pc := 15) (tgt := 70) d_CP_plannedShares_15 (by decide) (fun hb => ?_) (fun hb => ?_)
      · refine tk_lload (pc := 70) d_CP_plannedShares_70 rfl ?_
        exact tk_lreturn (pc := 72) d_CP_plannedShares_72 rfl (Nat.le_of_ble_eq_true rfl) (Nat.le_of_ble_eq_true rfl) ⟨rfl, rfl⟩
      · exact absurd ((nI_leI (a := i) (b := i) (by omega) (by omega)).mpr (Nat.le_refl _)) hb
    | succ m ih =>
      intro i o7 o8 hi'
      refine tk_iload (pc := 6) d_CP_plannedShares_6 rfl ?_
      refine tk_aload_n (pc := 8) d_CP_plannedShares_8 rfl ?_
      refine tk_get (pc := 9) d_CP_plannedShares_9 f_CP_10 rfl rfl ?_
      refine tk_get (pc := 12) d_CP_plannedShares_12 f_CP_37 rfl rfl ?_
      refine tk_icmp_ge (pc := 15) (tgt := 70) d_CP_plannedShares_15 (by decide) (fun hb => ?_) (fun hb => ?_)
      · exact absurd ((nI_leI (a := gn) (b := i) (by omega) (by omega)).mp hb) (by omega)
      refine tk_aload_n (pc := 18) d_CP_plannedShares_18 rfl ?_
      refine tk_get (pc := 19) d_CP_plannedShares_19 f_CP_19 rfl rfl ?_
      refine tk_get (pc := 22) d_CP_plannedShares_22 f_CP_118 rfl rfl ?_
      refine tk_iload_n (pc := 25) d_CP_plannedShares_25 rfl ?_
      refine tk_iconst (pc := 26) (v := 5) d_CP_plannedShares_26 (by decide) ?_
      refine tk_imul (pc := 27) d_CP_plannedShares_27 ?_
      refine tk_iload (pc := 28) d_CP_plannedShares_28 rfl ?_
      refine tk_iadd (pc := 30) d_CP_plannedShares_30 ?_
      refine tk_iald (pc := 31) (ht*5+i) d_CP_plannedShares_31 rfl (ixma ht 5 i) (by omega) (by decide) ?_
      refine tk_i2l (pc := 32) d_CP_plannedShares_32 ?_
      refine tk_aload_n (pc := 33) d_CP_plannedShares_33 rfl ?_
      refine tk_get (pc := 34) d_CP_plannedShares_34 f_CP_10 rfl rfl ?_
      refine tk_get (pc := 37) d_CP_plannedShares_37 f_CP_135 rfl rfl ?_
      refine tk_iload (pc := 40) d_CP_plannedShares_40 rfl ?_
      refine tk_iald (pc := 42) i d_CP_plannedShares_42 rfl rfl (by omega) (by decide) ?_
      refine tk_i2l (pc := 43) d_CP_plannedShares_43 ?_
      refine tk_lmul (pc := 44) d_CP_plannedShares_44 ?_
      refine tk_lstore7 (pc := 45) d_CP_plannedShares_45 rfl (by decide) ?_
      refine tk_lload (pc := 47) d_CP_plannedShares_47 rfl ?_
      refine tk_lload (pc := 49) d_CP_plannedShares_49 rfl ?_
      refine tk_aload_n (pc := 51) d_CP_plannedShares_51 rfl ?_
      refine tk_iload (pc := 52) d_CP_plannedShares_52 rfl ?_
      refine tk_iconst (pc := 54) (v := 4) d_CP_plannedShares_54 (by decide) ?_
      refine tk_imul (pc := 55) d_CP_plannedShares_55 ?_
      refine tk_iload_n (pc := 56) d_CP_plannedShares_56 rfl ?_
      refine tk_iadd (pc := 57) d_CP_plannedShares_57 ?_
      refine tk_iald (pc := 58) (i*4+e) d_CP_plannedShares_58 rfl (ixma i 4 e) (by omega) (by decide) ?_
      refine tk_i2l (pc := 59) d_CP_plannedShares_59 ?_
      refine tk_lmul (pc := 60) d_CP_plannedShares_60 ?_
      refine tk_ladd (pc := 61) d_CP_plannedShares_61 ?_
      refine tk_lstore4 (pc := 62) d_CP_plannedShares_62 rfl (by decide) ?_
      refine tk_jinc6 (pc := 64) d_CP_plannedShares_64 rfl (by decide) ?_
      refine tk_goto (pc := 67) (tgt := 6) d_CP_plannedShares_67 (by decide) ?_
      exact tk_eq rfl (by rw [inc1]; rfl) rfl rfl (ih (i + 1) _ _ (by omega))
  exact key gn 0 none none (by omega)
theorem m_enough {ht : Nat} (hg : gn < 6) (hh : ht < 4) : tk_M y_CP_enoughLeft w_CP_enoughLeft 0 0 0 [.ref 0, .int (nI ht)] (wd (nI gn, gk, gc, gs, gl, ga, gb) (nI n, lo, hi, ls, hs, mb, pc, bd) p c t) (tk_det (.inl (some (.int (enF gs bd ht gn 0)))) (wd (nI gn, gk, gc, gs, gl, ga, gb) (nI n, lo, hi, ls, hs, mb, pc, bd) p c t)) := by
  refine tk_M.of (lv := [some (.ref 0), some (.int (nI ht)), none]) (by decide) (Nat.le_of_ble_eq_true rfl) rfl ?_
  refine tk_iconst (pc := 0) (v := 0) d_CP_enoughLeft_0 (by decide) ?_
  refine tk_istore2 (pc := 1) d_CP_enoughLeft_1 rfl (by decide) ?_
  have key : ∀ (m i : Nat), i + m = gn → enF gs bd ht m i = enF gs bd ht gn 0 → tk_T y_CP_enoughLeft c_CP_enoughLeft 3 (some .boolean) [] 0 0 0 (fun _ => none) 0 0 (tk_det (.inl (some (.int (enF gs bd ht gn 0)))) (wd (nI gn, gk, gc, gs, gl, ga, gb) (nI n, lo, hi, ls, hs, mb, pc, bd) p c t)) 2 [some (.ref 0), some (.int (nI ht)), some (.int (nI i))] [] (wd (nI gn, gk, gc, gs, gl, ga, gb) (nI n, lo, hi, ls, hs, mb, pc, bd) p c t) := by
    intro m
    induction m with
    | zero =>
      intro i hi' hz
      obtain rfl : i = gn := by omega
      refine tk_iload_n (pc := 2) d_CP_enoughLeft_2 rfl ?_
      refine tk_aload_n (pc := 3) d_CP_enoughLeft_3 rfl ?_
      refine tk_get (pc := 4) d_CP_enoughLeft_4 f_CP_10 rfl rfl ?_
      refine tk_get (pc := 7) d_CP_enoughLeft_7 f_CP_37 rfl rfl ?_
      refine tk_icmp_ge (pc := 10) (tgt := 46) d_CP_enoughLeft_10 (by decide) (fun hb => ?_) (fun hb => ?_)
      · refine tk_iconst (pc := 46) (v := 1) d_CP_enoughLeft_46 (by decide) ?_
        exact tk_ireturn (pc := 47) d_CP_enoughLeft_47 rfl rfl (Nat.le_of_ble_eq_true rfl) (Nat.le_of_ble_eq_true rfl) ⟨by rw [← hz]; rfl, rfl⟩
      · exact absurd ((nI_leI (a := i) (b := i) (by omega) (by omega)).mpr (Nat.le_refl _)) hb
    | succ m ih =>
      intro i hi' hz
      refine tk_iload_n (pc := 2) d_CP_enoughLeft_2 rfl ?_
      refine tk_aload_n (pc := 3) d_CP_enoughLeft_3 rfl ?_
      refine tk_get (pc := 4) d_CP_enoughLeft_4 f_CP_10 rfl rfl ?_
      refine tk_get (pc := 7) d_CP_enoughLeft_7 f_CP_37 rfl rfl ?_
      refine tk_icmp_ge (pc := 10) (tgt := 46) d_CP_enoughLeft_10 (by decide) (fun hb => ?_) (fun hb => ?_)
      · exact absurd ((nI_leI (a := gn) (b := i) (by omega) (by omega)).mp hb) (by omega)
      refine tk_aload_n (pc := 13) d_CP_enoughLeft_13 rfl ?_
      refine tk_get (pc := 14) d_CP_enoughLeft_14 f_CP_10 rfl rfl ?_
      refine tk_get (pc := 17) d_CP_enoughLeft_17 f_CP_75 rfl rfl ?_
      refine tk_iload_n (pc := 20) d_CP_enoughLeft_20 rfl ?_
      refine tk_iald (pc := 21) i d_CP_enoughLeft_21 rfl rfl (by omega) (by decide) ?_
      refine tk_aload_n (pc := 22) d_CP_enoughLeft_22 rfl ?_
      refine tk_get (pc := 23) d_CP_enoughLeft_23 f_CP_19 rfl rfl ?_
      refine tk_get (pc := 26) d_CP_enoughLeft_26 f_CP_118 rfl rfl ?_
      refine tk_iload_n (pc := 29) d_CP_enoughLeft_29 rfl ?_
      refine tk_iconst (pc := 30) (v := 5) d_CP_enoughLeft_30 (by decide) ?_
      refine tk_imul (pc := 31) d_CP_enoughLeft_31 ?_
      refine tk_iload_n (pc := 32) d_CP_enoughLeft_32 rfl ?_
      refine tk_iadd (pc := 33) d_CP_enoughLeft_33 ?_
      refine tk_iald (pc := 34) (ht*5+i) d_CP_enoughLeft_34 rfl (ixma ht 5 i) (by omega) (by decide) ?_
      refine tk_icmp_ge (pc := 35) (tgt := 40) d_CP_enoughLeft_35 (by decide) (fun hc => ?_) (fun hc => ?_)
      · refine tk_jinc2 (pc := 40) d_CP_enoughLeft_40 rfl (by decide) ?_
        refine tk_goto (pc := 43) (tgt := 2) d_CP_enoughLeft_43 (by decide) ?_
        refine tk_eq rfl (by rw [inc1]) rfl rfl (ih (i + 1) (by omega) ?_)
        rw [← hz]
        simp only [enF]
        rw [if_pos (show bd (ht * 5 + i) ≤ gs i from hc)]
      · refine tk_iconst (pc := 38) (v := 0) d_CP_enoughLeft_38 (by decide) ?_
        exact tk_ireturn (pc := 39) d_CP_enoughLeft_39 rfl rfl (Nat.le_of_ble_eq_true rfl) (Nat.le_of_ble_eq_true rfl) ⟨by rw [← hz]; simp only [enF]; rw [if_neg (show ¬ bd (ht * 5 + i) ≤ gs i from hc)], rfl⟩
  exact key gn 0 (by omega) rfl
theorem m_plan_no {i a : Int32} (hi' : i < 0 ∨ ¬ i < nI n) : tk_M y_CP_plan w_CP_plan 10 1 6 [.ref 0, .int i, .int a] (wd (nI gn, gk, gc, gs, gl, ga, gb) (nI n, lo, hi, ls, hs, mb, pc, bd) p c t) (tk_det (.inr eI) (wd (nI gn, gk, gc, gs, gl, ga, gb) (nI n, lo, hi, ls, hs, mb, pc, bd) p c t)) := by
  refine tk_M.of (lv := [some (.ref 0), some (.int i), some (.int a)]) (by decide) (Nat.le_of_ble_eq_true rfl) rfl ?_
  refine tk_iload_n (pc := 0) d_CP_plan_0 rfl ?_
  refine tk_aload_n (pc := 1) d_CP_plan_1 rfl ?_
  refine tk_get (pc := 2) d_CP_plan_2 f_CP_19 rfl rfl ?_
  refine tk_get (pc := 5) d_CP_plan_5 f_CP_81 rfl rfl ?_
  refine tk_callSx (pc := 8) d_CP_plan_8 l_CP_54 k_CP_requireIndex (c_ri_no hi') rfl (by omega) (Nat.le_of_ble_eq_true rfl) (Nat.le_of_ble_eq_true rfl) (Nat.le_of_ble_eq_true rfl) rfl rfl (by simp) ?_
  exact ⟨rfl, rfl⟩
theorem m_plan_bad {i : Nat} {a : Int32} (hi' : i < n) (hn : n < 5) (hb : a < 0 ∨ 100000 < a) : tk_M y_CP_plan w_CP_plan 10 1 6 [.ref 0, .int (nI i), .int a] (wd (nI gn, gk, gc, gs, gl, ga, gb) (nI n, lo, hi, ls, hs, mb, pc, bd) p c t) (tk_det (.inr eA) (wd (nI gn, gk, gc, gs, gl, ga, gb) (nI n, lo, hi, ls, hs, mb, pc, bd) p c t)) := by
  refine tk_M.of (lv := [some (.ref 0), some (.int (nI i)), some (.int a)]) (by decide) (Nat.le_of_ble_eq_true rfl) rfl ?_
  refine tk_iload_n (pc := 0) d_CP_plan_0 rfl ?_
  refine tk_aload_n (pc := 1) d_CP_plan_1 rfl ?_
  refine tk_get (pc := 2) d_CP_plan_2 f_CP_19 rfl rfl ?_
  refine tk_get (pc := 5) d_CP_plan_5 f_CP_81 rfl rfl ?_
  refine tk_callSr (pc := 8) d_CP_plan_8 l_CP_54 k_CP_requireIndex (c_ri_ok (nI_pos (by omega)) (nI_lt hi' (by omega))) rfl (by omega) (Nat.le_of_ble_eq_true rfl) (Nat.le_of_ble_eq_true rfl) (Nat.le_of_ble_eq_true rfl) rfl rfl ?_
  refine tk_iload_n (pc := 11) d_CP_plan_11 rfl ?_
  refine tk_iconst (pc := 12) (v := 0) d_CP_plan_12 (by decide) ?_
  refine tk_ldc (pc := 13) d_CP_plan_13 q_CP_49 ?_
  refine tk_callSx (pc := 15) d_CP_plan_15 l_CP_45 k_CP_requireRange (c_rr_no hb) rfl (by omega) (Nat.le_of_ble_eq_true rfl) (Nat.le_of_ble_eq_true rfl) (Nat.le_of_ble_eq_true rfl) rfl rfl (by simp) ?_
  exact ⟨rfl, rfl⟩
/-- what a planning of heat ht with al steps comes to -/
def plX (g : sG) (h : sH) (gn : Nat) (R : Nat → Nat) (ht : Nat) (al : Int32) (sb f ch be : Ar) : sT := tryF gn R (pbf g h ht sb gn) al gn 0 (ldR f h ht, ch, be, -1, 0, 0)
theorem m_plan_ok {sn : Int32} {sr sb f ch be : Ar} {q : Int32 × Int32 × Int32 × Int32 × Int32} {R : Nat → Nat} {i : Nat} {a : Int32} {X : sT} (hg : gn < 6) (hi' : i < n) (hn : n < 5) (hb : ¬ (a < 0 ∨ 100000 < a)) (hR : ∀ k, k < gn → rmin (nI gn, gk, gc, gs, gl, ga, gb) k = nI (R k) ∧ R k < 100)
    (hX : plX (nI gn, gk, gc, gs, gl, ga, gb) (nI n, lo, hi, ls, hs, mb, pc, bd) gn R i a sb f ch be = X) :
    tk_M y_CP_plan w_CP_plan 10 1 6 [.ref 0, .int (nI i), .int a] (wd (nI gn, gk, gc, gs, gl, ga, gb) (nI n, lo, hi, ls, hs, mb, pc, bd) ((sn, sr, sb, f), ch, be, q) c t)
      (tk_det (.inl (some (.int X.2.2.2.1))) (wP (nI gn, gk, gc, gs, gl, ga, gb) (nI n, lo, hi, ls, hs, mb, upd pc i X.2.2.2.1, cpf bd X.2.2.1 (i * 5) 5) gn (rmf (nI gn, gk, gc, gs, gl, ga, gb) sr gn) (pbf (nI gn, gk, gc, gs, gl, ga, gb) (nI n, lo, hi, ls, hs, mb, pc, bd) i sb gn) a 1 c t X)) := by
  refine tk_M.of (lv := [some (.ref 0), some (.int (nI i)), some (.int a)]) (by decide) (Nat.le_of_ble_eq_true rfl) rfl ?_
  refine tk_iload_n (pc := 0) d_CP_plan_0 rfl ?_
  refine tk_aload_n (pc := 1) d_CP_plan_1 rfl ?_
  refine tk_get (pc := 2) d_CP_plan_2 f_CP_19 rfl rfl ?_
  refine tk_get (pc := 5) d_CP_plan_5 f_CP_81 rfl rfl ?_
  refine tk_callSr (pc := 8) d_CP_plan_8 l_CP_54 k_CP_requireIndex (c_ri_ok (nI_pos (by omega)) (nI_lt hi' (by omega))) rfl (by omega) (Nat.le_of_ble_eq_true rfl) (Nat.le_of_ble_eq_true rfl) (Nat.le_of_ble_eq_true rfl) rfl rfl ?_
  refine tk_iload_n (pc := 11) d_CP_plan_11 rfl ?_
  refine tk_iconst (pc := 12) (v := 0) d_CP_plan_12 (by decide) ?_
  refine tk_ldc (pc := 13) d_CP_plan_13 q_CP_49 ?_
  refine tk_callSr (pc := 15) d_CP_plan_15 l_CP_45 k_CP_requireRange (c_rr_ok (fun z => hb (Or.inl z)) (fun z => hb (Or.inr z))) rfl (by omega) (Nat.le_of_ble_eq_true rfl) (Nat.le_of_ble_eq_true rfl) (Nat.le_of_ble_eq_true rfl) rfl rfl ?_
  refine tk_aload_n (pc := 18) d_CP_plan_18 rfl ?_
  refine tk_get (pc := 19) d_CP_plan_19 f_CP_26 rfl rfl ?_
  refine tk_aload_n (pc := 22) d_CP_plan_22 rfl ?_
  refine tk_get (pc := 23) d_CP_plan_23 f_CP_10 rfl rfl ?_
  refine tk_aload_n (pc := 26) d_CP_plan_26 rfl ?_
  refine tk_get (pc := 27) d_CP_plan_27 f_CP_19 rfl rfl ?_
  refine tk_iload_n (pc := 30) d_CP_plan_30 rfl ?_
  refine tk_iload_n (pc := 31) d_CP_plan_31 rfl ?_
  refine tk_callVr (pc := 32) d_CP_plan_32 l_CP_90 k_P_search rfl rfl rfl (m_search (gn := gn) (gt := (gk, gc, gs, gl, ga, gb)) (R := R) (ht := i) (al := a) (f := f) hg (by omega) hR) rfl (by omega) (Nat.le_of_ble_eq_true rfl) (Nat.le_of_ble_eq_true rfl) (Nat.le_of_ble_eq_true rfl) rfl rfl ?_
  refine tk_ww (wP (nI gn, gk, gc, gs, gl, ga, gb) (nI n, lo, hi, ls, hs, mb, pc, bd) gn (rmf (nI gn, gk, gc, gs, gl, ga, gb) sr gn) (pbf (nI gn, gk, gc, gs, gl, ga, gb) (nI n, lo, hi, ls, hs, mb, pc, bd) i sb gn) a 1 c t X) (by rw [← hX]; rfl) ?_
  refine tk_aload_n (pc := 35) d_CP_plan_35 rfl ?_
  refine tk_get (pc := 36) d_CP_plan_36 f_CP_19 rfl rfl ?_
  refine tk_iload_n (pc := 39) d_CP_plan_39 rfl ?_
  refine tk_aload_n (pc := 40) d_CP_plan_40 rfl ?_
  refine tk_get (pc := 41) d_CP_plan_41 f_CP_26 rfl rfl ?_
  refine tk_get (pc := 44) d_CP_plan_44 f_CP_94 rfl rfl ?_
  refine tk_aload_n (pc := 47) d_CP_plan_47 rfl ?_
  refine tk_get (pc := 48) d_CP_plan_48 f_CP_26 rfl rfl ?_
  refine tk_get (pc := 51) d_CP_plan_51 f_CP_97 rfl rfl ?_
  refine tk_callVr (pc := 54) d_CP_plan_54 l_CP_100 k_H_keepPlan rfl rfl rfl (m_H_keepPlan (k := i) (v := X.2.2.2.1) (by omega)) rfl (by omega) (Nat.le_of_ble_eq_true rfl) (Nat.le_of_ble_eq_true rfl) (Nat.le_of_ble_eq_true rfl) rfl rfl ?_
  refine tk_aload_n (pc := 57) d_CP_plan_57 rfl ?_
  refine tk_get (pc := 58) d_CP_plan_58 f_CP_26 rfl rfl ?_
  refine tk_get (pc := 61) d_CP_plan_61 f_CP_97 rfl rfl ?_
  exact tk_ireturn (pc := 64) d_CP_plan_64 rfl rfl (Nat.le_of_ble_eq_true rfl) (Nat.le_of_ble_eq_true rfl) ⟨rfl, rfl⟩
theorem m_planned_no {g : sG} {h : sH} {a : Int32} (hi' : a < 0 ∨ ¬ a < 2) : tk_M y_CP_planned w_CP_planned 10 1 6 [.ref 0, .int a] (wd g h p c t) (tk_det (.inr eI) (wd g h p c t)) := by
  refine tk_M.of (lv := [some (.ref 0), some (.int a)]) (by decide) (Nat.le_of_ble_eq_true rfl) rfl ?_
  refine tk_iload_n (pc := 0) d_CP_planned_0 rfl ?_
  refine tk_iconst (pc := 1) (v := 2) d_CP_planned_1 (by decide) ?_
  refine tk_callSx (pc := 2) d_CP_planned_2 l_CP_54 k_CP_requireIndex (c_ri_no hi') rfl (by omega) (Nat.le_of_ble_eq_true rfl) (Nat.le_of_ble_eq_true rfl) (Nat.le_of_ble_eq_true rfl) rfl rfl (by simp) ?_
  exact ⟨rfl, rfl⟩
theorem m_planned_turn {g : sG} {h : sH} {s : sS} {ch be : Ar} {bc al st sp : Int32} {a : Int32} (h0 : ¬ a < 0) (h1 : a < 2) : tk_M y_CP_planned w_CP_planned 10 1 6 [.ref 0, .int a] (wd g h (s, ch, be, bc, al, st, sp, 0) c t) (tk_det (.inr eS) (wd g h (s, ch, be, bc, al, st, sp, 0) c t)) := by
  refine tk_M.of (lv := [some (.ref 0), some (.int a)]) (by decide) (Nat.le_of_ble_eq_true rfl) rfl ?_
  refine tk_iload_n (pc := 0) d_CP_planned_0 rfl ?_
  refine tk_iconst (pc := 1) (v := 2) d_CP_planned_1 (by decide) ?_
  refine tk_callSr (pc := 2) d_CP_planned_2 l_CP_54 k_CP_requireIndex (c_ri_ok h0 h1) rfl (by omega) (Nat.le_of_ble_eq_true rfl) (Nat.le_of_ble_eq_true rfl) (Nat.le_of_ble_eq_true rfl) rfl rfl ?_
  refine tk_aload_n (pc := 5) d_CP_planned_5 rfl ?_
  refine tk_get (pc := 6) d_CP_planned_6 f_CP_26 rfl rfl ?_
  refine tk_get (pc := 9) d_CP_planned_9 f_CP_104 rfl rfl ?_
  refine tk_callSx (pc := 12) d_CP_planned_12 l_CP_41 k_CP_requireTurn (c_rt_no) rfl (by omega) (Nat.le_of_ble_eq_true rfl) (Nat.le_of_ble_eq_true rfl) (Nat.le_of_ble_eq_true rfl) rfl rfl (by simp) ?_
  exact ⟨rfl, rfl⟩
theorem m_planned_ok {g : sG} {h : sH} {s : sS} {ch be : Ar} {bc al st sp : Int32} {a : Int32} (h0 : ¬ a < 0) (h1 : a < 2) : tk_M y_CP_planned w_CP_planned 10 1 6 [.ref 0, .int a] (wd g h (s, ch, be, bc, al, st, sp, 1) c t) (tk_det (.inl (some (.int (if a = 1 then st else if sp = 0 then 0 else 1)))) (wd g h (s, ch, be, bc, al, st, sp, 1) c t)) := by
  refine tk_M.of (lv := [some (.ref 0), some (.int a)]) (by decide) (Nat.le_of_ble_eq_true rfl) rfl ?_
  refine tk_iload_n (pc := 0) d_CP_planned_0 rfl ?_
  refine tk_iconst (pc := 1) (v := 2) d_CP_planned_1 (by decide) ?_
  refine tk_callSr (pc := 2) d_CP_planned_2 l_CP_54 k_CP_requireIndex (c_ri_ok h0 h1) rfl (by omega) (Nat.le_of_ble_eq_true rfl) (Nat.le_of_ble_eq_true rfl) (Nat.le_of_ble_eq_true rfl) rfl rfl ?_
  refine tk_aload_n (pc := 5) d_CP_planned_5 rfl ?_
  refine tk_get (pc := 6) d_CP_planned_6 f_CP_26 rfl rfl ?_
  refine tk_get (pc := 9) d_CP_planned_9 f_CP_104 rfl rfl ?_
  refine tk_callSr (pc := 12) d_CP_planned_12 l_CP_41 k_CP_requireTurn (c_rt_ok (b := 1) (by decide)) rfl (by omega) (Nat.le_of_ble_eq_true rfl) (Nat.le_of_ble_eq_true rfl) (Nat.le_of_ble_eq_true rfl) rfl rfl ?_
  refine tk_iload_n (pc := 15) d_CP_planned_15 rfl ?_
  refine tk_iconst (pc := 16) (v := 1) d_CP_planned_16 (by decide) ?_
  refine tk_icmp_ne (pc := 17) (tgt := 28) d_CP_planned_17 (by decide) (fun hb => ?_) (fun hb => ?_)
  · refine tk_aload_n (pc := 28) d_CP_planned_28 rfl ?_
    refine tk_get (pc := 29) d_CP_planned_29 f_CP_26 rfl rfl ?_
    refine tk_get (pc := 32) d_CP_planned_32 f_CP_111 rfl rfl ?_
    refine tk_if_eq (pc := 35) (tgt := 42) d_CP_planned_35 (by decide) (fun hc => ?_) (fun hc => ?_)
    · refine tk_iconst (pc := 42) (v := 0) d_CP_planned_42 (by decide) ?_
      exact tk_ireturn (pc := 43) d_CP_planned_43 rfl rfl (Nat.le_of_ble_eq_true rfl) (Nat.le_of_ble_eq_true rfl) ⟨by rw [if_neg hb, if_pos hc], rfl⟩
    · refine tk_iconst (pc := 38) (v := 1) d_CP_planned_38 (by decide) ?_
      refine tk_goto (pc := 39) (tgt := 43) d_CP_planned_39 (by decide) ?_
      exact tk_ireturn (pc := 43) d_CP_planned_43 rfl rfl (Nat.le_of_ble_eq_true rfl) (Nat.le_of_ble_eq_true rfl) ⟨by rw [if_neg hb, if_neg hc], rfl⟩
  · refine tk_aload_n (pc := 20) d_CP_planned_20 rfl ?_
    refine tk_get (pc := 21) d_CP_planned_21 f_CP_26 rfl rfl ?_
    refine tk_get (pc := 24) d_CP_planned_24 f_CP_108 rfl rfl ?_
    exact tk_ireturn (pc := 27) d_CP_planned_27 rfl rfl (Nat.le_of_ble_eq_true rfl) (Nat.le_of_ble_eq_true rfl) ⟨by rw [if_pos hb], rfl⟩
theorem m_amount_no {i k : Int32} (hi' : (i < 0 ∨ ¬ i < nI n) ∨ (k < 0 ∨ ¬ k < nI gn)) : tk_M y_CP_amount w_CP_amount 10 1 6 [.ref 0, .int i, .int k] (wd (nI gn, gk, gc, gs, gl, ga, gb) (nI n, lo, hi, ls, hs, mb, pc, bd) p c t) (tk_det (.inr eI) (wd (nI gn, gk, gc, gs, gl, ga, gb) (nI n, lo, hi, ls, hs, mb, pc, bd) p c t)) := by
  refine tk_M.of (lv := [some (.ref 0), some (.int i), some (.int k)]) (by decide) (Nat.le_of_ble_eq_true rfl) rfl ?_
  refine tk_iload_n (pc := 0) d_CP_amount_0 rfl ?_
  refine tk_aload_n (pc := 1) d_CP_amount_1 rfl ?_
  refine tk_get (pc := 2) d_CP_amount_2 f_CP_19 rfl rfl ?_
  refine tk_get (pc := 5) d_CP_amount_5 f_CP_81 rfl rfl ?_
  by_cases h1 : i < 0 ∨ ¬ i < nI n
  · refine tk_callSx (pc := 8) d_CP_amount_8 l_CP_54 k_CP_requireIndex (c_ri_no h1) rfl (by omega) (Nat.le_of_ble_eq_true rfl) (Nat.le_of_ble_eq_true rfl) (Nat.le_of_ble_eq_true rfl) rfl rfl (by simp) ?_
    exact ⟨rfl, rfl⟩
  refine tk_callSr (pc := 8) d_CP_amount_8 l_CP_54 k_CP_requireIndex (c_ri_ok (fun z => h1 (Or.inl z)) (Classical.not_not.mp (fun z => h1 (Or.inr z)))) rfl (by omega) (Nat.le_of_ble_eq_true rfl) (Nat.le_of_ble_eq_true rfl) (Nat.le_of_ble_eq_true rfl) rfl rfl ?_
  refine tk_iload_n (pc := 11) d_CP_amount_11 rfl ?_
  refine tk_aload_n (pc := 12) d_CP_amount_12 rfl ?_
  refine tk_get (pc := 13) d_CP_amount_13 f_CP_10 rfl rfl ?_
  refine tk_get (pc := 16) d_CP_amount_16 f_CP_37 rfl rfl ?_
  refine tk_callSx (pc := 19) d_CP_amount_19 l_CP_54 k_CP_requireIndex (c_ri_no (hi'.resolve_left h1)) rfl (by omega) (Nat.le_of_ble_eq_true rfl) (Nat.le_of_ble_eq_true rfl) (Nat.le_of_ble_eq_true rfl) rfl rfl (by simp) ?_
  exact ⟨rfl, rfl⟩
theorem m_amount_turn {i k : Nat} (hi' : i < n) (hn : n < 5) (hk : k < gn) (hg : gn < 6) (hp : pc i = -1) : tk_M y_CP_amount w_CP_amount 10 1 6 [.ref 0, .int (nI i), .int (nI k)] (wd (nI gn, gk, gc, gs, gl, ga, gb) (nI n, lo, hi, ls, hs, mb, pc, bd) p c t) (tk_det (.inr eS) (wd (nI gn, gk, gc, gs, gl, ga, gb) (nI n, lo, hi, ls, hs, mb, pc, bd) p c t)) := by
  refine tk_M.of (lv := [some (.ref 0), some (.int (nI i)), some (.int (nI k))]) (by decide) (Nat.le_of_ble_eq_true rfl) rfl ?_
  refine tk_iload_n (pc := 0) d_CP_amount_0 rfl ?_
  refine tk_aload_n (pc := 1) d_CP_amount_1 rfl ?_
  refine tk_get (pc := 2) d_CP_amount_2 f_CP_19 rfl rfl ?_
  refine tk_get (pc := 5) d_CP_amount_5 f_CP_81 rfl rfl ?_
  refine tk_callSr (pc := 8) d_CP_amount_8 l_CP_54 k_CP_requireIndex (c_ri_ok (nI_pos (by omega)) (nI_lt hi' (by omega))) rfl (by omega) (Nat.le_of_ble_eq_true rfl) (Nat.le_of_ble_eq_true rfl) (Nat.le_of_ble_eq_true rfl) rfl rfl ?_
  refine tk_iload_n (pc := 11) d_CP_amount_11 rfl ?_
  refine tk_aload_n (pc := 12) d_CP_amount_12 rfl ?_
  refine tk_get (pc := 13) d_CP_amount_13 f_CP_10 rfl rfl ?_
  refine tk_get (pc := 16) d_CP_amount_16 f_CP_37 rfl rfl ?_
  refine tk_callSr (pc := 19) d_CP_amount_19 l_CP_54 k_CP_requireIndex (c_ri_ok (nI_pos (by omega)) (nI_lt hk (by omega))) rfl (by omega) (Nat.le_of_ble_eq_true rfl) (Nat.le_of_ble_eq_true rfl) (Nat.le_of_ble_eq_true rfl) rfl rfl ?_
  refine tk_aload_n (pc := 22) d_CP_amount_22 rfl ?_
  refine tk_get (pc := 23) d_CP_amount_23 f_CP_19 rfl rfl ?_
  refine tk_iload_n (pc := 26) d_CP_amount_26 rfl ?_
  refine tk_callVr (pc := 27) d_CP_amount_27 l_CP_114 k_H_hasPlan rfl rfl rfl (m_H_hasPlan (k := i) (by omega)) rfl (by omega) (Nat.le_of_ble_eq_true rfl) (Nat.le_of_ble_eq_true rfl) (Nat.le_of_ble_eq_true rfl) rfl rfl ?_
  rw [if_pos (show pc i = -1 from hp)]
  refine tk_callSx (pc := 30) d_CP_amount_30 l_CP_41 k_CP_requireTurn (c_rt_no) rfl (by omega) (Nat.le_of_ble_eq_true rfl) (Nat.le_of_ble_eq_true rfl) (Nat.le_of_ble_eq_true rfl) rfl rfl (by simp) ?_
  exact ⟨rfl, rfl⟩
theorem m_amount_ok {i k : Nat} (hi' : i < n) (hn : n < 5) (hk : k < gn) (hg : gn < 6) (hp : ¬ pc i = -1) : tk_M y_CP_amount w_CP_amount 10 1 6 [.ref 0, .int (nI i), .int (nI k)] (wd (nI gn, gk, gc, gs, gl, ga, gb) (nI n, lo, hi, ls, hs, mb, pc, bd) p c t) (tk_det (.inl (some (.int (bd (i * 5 + k))))) (wd (nI gn, gk, gc, gs, gl, ga, gb) (nI n, lo, hi, ls, hs, mb, pc, bd) p c t)) := by
  refine tk_M.of (lv := [some (.ref 0), some (.int (nI i)), some (.int (nI k))]) (by decide) (Nat.le_of_ble_eq_true rfl) rfl ?_
  refine tk_iload_n (pc := 0) d_CP_amount_0 rfl ?_
  refine tk_aload_n (pc := 1) d_CP_amount_1 rfl ?_
  refine tk_get (pc := 2) d_CP_amount_2 f_CP_19 rfl rfl ?_
  refine tk_get (pc := 5) d_CP_amount_5 f_CP_81 rfl rfl ?_
  refine tk_callSr (pc := 8) d_CP_amount_8 l_CP_54 k_CP_requireIndex (c_ri_ok (nI_pos (by omega)) (nI_lt hi' (by omega))) rfl (by omega) (Nat.le_of_ble_eq_true rfl) (Nat.le_of_ble_eq_true rfl) (Nat.le_of_ble_eq_true rfl) rfl rfl ?_
  refine tk_iload_n (pc := 11) d_CP_amount_11 rfl ?_
  refine tk_aload_n (pc := 12) d_CP_amount_12 rfl ?_
  refine tk_get (pc := 13) d_CP_amount_13 f_CP_10 rfl rfl ?_
  refine tk_get (pc := 16) d_CP_amount_16 f_CP_37 rfl rfl ?_
  refine tk_callSr (pc := 19) d_CP_amount_19 l_CP_54 k_CP_requireIndex (c_ri_ok (nI_pos (by omega)) (nI_lt hk (by omega))) rfl (by omega) (Nat.le_of_ble_eq_true rfl) (Nat.le_of_ble_eq_true rfl) (Nat.le_of_ble_eq_true rfl) rfl rfl ?_
  refine tk_aload_n (pc := 22) d_CP_amount_22 rfl ?_
  refine tk_get (pc := 23) d_CP_amount_23 f_CP_19 rfl rfl ?_
  refine tk_iload_n (pc := 26) d_CP_amount_26 rfl ?_
  refine tk_callVr (pc := 27) d_CP_amount_27 l_CP_114 k_H_hasPlan rfl rfl rfl (m_H_hasPlan (k := i) (by omega)) rfl (by omega) (Nat.le_of_ble_eq_true rfl) (Nat.le_of_ble_eq_true rfl) (Nat.le_of_ble_eq_true rfl) rfl rfl ?_
  rw [if_neg (show ¬ pc i = -1 from hp)]
  refine tk_callSr (pc := 30) d_CP_amount_30 l_CP_41 k_CP_requireTurn (c_rt_ok (b := 1) (by decide)) rfl (by omega) (Nat.le_of_ble_eq_true rfl) (Nat.le_of_ble_eq_true rfl) (Nat.le_of_ble_eq_true rfl) rfl rfl ?_
  refine tk_aload_n (pc := 33) d_CP_amount_33 rfl ?_
  refine tk_get (pc := 34) d_CP_amount_34 f_CP_19 rfl rfl ?_
  refine tk_get (pc := 37) d_CP_amount_37 f_CP_118 rfl rfl ?_
  refine tk_iload_n (pc := 40) d_CP_amount_40 rfl ?_
  refine tk_iconst (pc := 41) (v := 5) d_CP_amount_41 (by decide) ?_
  refine tk_imul (pc := 42) d_CP_amount_42 ?_
  refine tk_iload_n (pc := 43) d_CP_amount_43 rfl ?_
  refine tk_iadd (pc := 44) d_CP_amount_44 ?_
  refine tk_iald (pc := 45) (i*5+k) d_CP_amount_45 rfl (ixma i 5 k) (by omega) (by decide) ?_
  exact tk_ireturn (pc := 46) d_CP_amount_46 rfl rfl (Nat.le_of_ble_eq_true rfl) (Nat.le_of_ble_eq_true rfl) ⟨rfl, rfl⟩
theorem m_clash_no {i : Int32} (hi' : i < 0 ∨ ¬ i < nI n) : tk_M y_CP_clash w_CP_clash 10 1 6 [.ref 0, .int i] (wd (nI gn, gk, gc, gs, gl, ga, gb) (nI n, lo, hi, ls, hs, mb, pc, bd) p c t) (tk_det (.inr eI) (wd (nI gn, gk, gc, gs, gl, ga, gb) (nI n, lo, hi, ls, hs, mb, pc, bd) p c t)) := by
  refine tk_M.of (lv := [some (.ref 0), some (.int i)]) (by decide) (Nat.le_of_ble_eq_true rfl) rfl ?_
  refine tk_iload_n (pc := 0) d_CP_clash_0 rfl ?_
  refine tk_aload_n (pc := 1) d_CP_clash_1 rfl ?_
  refine tk_get (pc := 2) d_CP_clash_2 f_CP_19 rfl rfl ?_
  refine tk_get (pc := 5) d_CP_clash_5 f_CP_81 rfl rfl ?_
  refine tk_callSx (pc := 8) d_CP_clash_8 l_CP_54 k_CP_requireIndex (c_ri_no hi') rfl (by omega) (Nat.le_of_ble_eq_true rfl) (Nat.le_of_ble_eq_true rfl) (Nat.le_of_ble_eq_true rfl) rfl rfl (by simp) ?_
  exact ⟨rfl, rfl⟩
theorem m_clash_ok {sn : Int32} {sr sb f : Ar} {s : Nat → Int64} {ah : Int32} {R : Nat → Nat} {i : Nat} (hg : gn < 6) (hi' : i < n) (hn : n < 5) (hR : ∀ k, k < gn → rmin (nI gn, gk, gc, gs, gl, ga, gb) k = nI (R k) ∧ R k < 100) :
    tk_M y_CP_clash w_CP_clash 10 1 6 [.ref 0, .int (nI i)] (wd (nI gn, gk, gc, gs, gl, ga, gb) (nI n, lo, hi, ls, hs, mb, pc, bd) p ((sn, sr, sb, f), s, ah) t)
      (tk_det (.inl (some (.int (if (fndW gn (gk, gc, gs, gl, ga, gb) (nI n, lo, hi, ls, hs, mb, pc, bd) R i sb f s).2.2 = 0 then lft (fndW gn (gk, gc, gs, gl, ga, gb) (nI n, lo, hi, ls, hs, mb, pc, bd) R i sb f s).2.1 11 else 0)))) (wC (nI gn, gk, gc, gs, gl, ga, gb) (nI n, lo, hi, ls, hs, mb, pc, bd) p gn (rmf (nI gn, gk, gc, gs, gl, ga, gb) sr gn) (pbf (nI gn, gk, gc, gs, gl, ga, gb) (nI n, lo, hi, ls, hs, mb, pc, bd) i sb gn) t (fndW gn (gk, gc, gs, gl, ga, gb) (nI n, lo, hi, ls, hs, mb, pc, bd) R i sb f s))) := by
  refine tk_M.of (lv := [some (.ref 0), some (.int (nI i))]) (by decide) (Nat.le_of_ble_eq_true rfl) rfl ?_
  refine tk_iload_n (pc := 0) d_CP_clash_0 rfl ?_
  refine tk_aload_n (pc := 1) d_CP_clash_1 rfl ?_
  refine tk_get (pc := 2) d_CP_clash_2 f_CP_19 rfl rfl ?_
  refine tk_get (pc := 5) d_CP_clash_5 f_CP_81 rfl rfl ?_
  refine tk_callSr (pc := 8) d_CP_clash_8 l_CP_54 k_CP_requireIndex (c_ri_ok (nI_pos (by omega)) (nI_lt hi' (by omega))) rfl (by omega) (Nat.le_of_ble_eq_true rfl) (Nat.le_of_ble_eq_true rfl) (Nat.le_of_ble_eq_true rfl) rfl rfl ?_
  refine tk_aload_n (pc := 11) d_CP_clash_11 rfl ?_
  refine tk_get (pc := 12) d_CP_clash_12 f_CP_33 rfl rfl ?_
  refine tk_aload_n (pc := 15) d_CP_clash_15 rfl ?_
  refine tk_get (pc := 16) d_CP_clash_16 f_CP_10 rfl rfl ?_
  refine tk_aload_n (pc := 19) d_CP_clash_19 rfl ?_
  refine tk_get (pc := 20) d_CP_clash_20 f_CP_19 rfl rfl ?_
  refine tk_iload_n (pc := 23) d_CP_clash_23 rfl ?_
  refine tk_callVr (pc := 24) d_CP_clash_24 l_CP_153 k_C_find rfl rfl rfl (m_find (gn := gn) (gt := (gk, gc, gs, gl, ga, gb)) (R := R) (ht := i) (f := f) hg (by omega) hR) rfl (by omega) (Nat.le_of_ble_eq_true rfl) (Nat.le_of_ble_eq_true rfl) (Nat.le_of_ble_eq_true rfl) rfl rfl ?_
  exact tk_ireturn (pc := 27) d_CP_clash_27 rfl rfl (Nat.le_of_ble_eq_true rfl) (Nat.le_of_ble_eq_true rfl) ⟨rfl, rfl⟩
theorem m_take_no {i : Int32} (hi' : i < 0 ∨ ¬ i < nI n) : tk_M y_CP_take w_CP_take 10 1 6 [.ref 0, .int i] (wd (nI gn, gk, gc, gs, gl, ga, gb) (nI n, lo, hi, ls, hs, mb, pc, bd) p c t) (tk_det (.inr eI) (wd (nI gn, gk, gc, gs, gl, ga, gb) (nI n, lo, hi, ls, hs, mb, pc, bd) p c t)) := by
  refine tk_M.of (lv := [some (.ref 0), some (.int i), none]) (by decide) (Nat.le_of_ble_eq_true rfl) rfl ?_
  refine tk_iload_n (pc := 0) d_CP_take_0 rfl ?_
  refine tk_aload_n (pc := 1) d_CP_take_1 rfl ?_
  refine tk_get (pc := 2) d_CP_take_2 f_CP_19 rfl rfl ?_
  refine tk_get (pc := 5) d_CP_take_5 f_CP_81 rfl rfl ?_
  refine tk_callSx (pc := 8) d_CP_take_8 l_CP_54 k_CP_requireIndex (c_ri_no hi') rfl (by omega) (Nat.le_of_ble_eq_true rfl) (Nat.le_of_ble_eq_true rfl) (Nat.le_of_ble_eq_true rfl) rfl rfl (by simp) ?_
  exact ⟨rfl, rfl⟩
theorem m_take_turn {i : Nat} (hi' : i < n) (hn : n < 5) (hp : pc i = -1) : tk_M y_CP_take w_CP_take 10 1 6 [.ref 0, .int (nI i)] (wd (nI gn, gk, gc, gs, gl, ga, gb) (nI n, lo, hi, ls, hs, mb, pc, bd) p c t) (tk_det (.inr eS) (wd (nI gn, gk, gc, gs, gl, ga, gb) (nI n, lo, hi, ls, hs, mb, pc, bd) p c t)) := by
  refine tk_M.of (lv := [some (.ref 0), some (.int (nI i)), none]) (by decide) (Nat.le_of_ble_eq_true rfl) rfl ?_
  refine tk_iload_n (pc := 0) d_CP_take_0 rfl ?_
  refine tk_aload_n (pc := 1) d_CP_take_1 rfl ?_
  refine tk_get (pc := 2) d_CP_take_2 f_CP_19 rfl rfl ?_
  refine tk_get (pc := 5) d_CP_take_5 f_CP_81 rfl rfl ?_
  refine tk_callSr (pc := 8) d_CP_take_8 l_CP_54 k_CP_requireIndex (c_ri_ok (nI_pos (by omega)) (nI_lt hi' (by omega))) rfl (by omega) (Nat.le_of_ble_eq_true rfl) (Nat.le_of_ble_eq_true rfl) (Nat.le_of_ble_eq_true rfl) rfl rfl ?_
  refine tk_aload_n (pc := 11) d_CP_take_11 rfl ?_
  refine tk_get (pc := 12) d_CP_take_12 f_CP_19 rfl rfl ?_
  refine tk_iload_n (pc := 15) d_CP_take_15 rfl ?_
  refine tk_callVr (pc := 16) d_CP_take_16 l_CP_114 k_H_hasPlan rfl rfl rfl (m_H_hasPlan (k := i) (by omega)) rfl (by omega) (Nat.le_of_ble_eq_true rfl) (Nat.le_of_ble_eq_true rfl) (Nat.le_of_ble_eq_true rfl) rfl rfl ?_
  rw [if_pos (show pc i = -1 from hp)]
  refine tk_callSx (pc := 19) d_CP_take_19 l_CP_41 k_CP_requireTurn (c_rt_no) rfl (by omega) (Nat.le_of_ble_eq_true rfl) (Nat.le_of_ble_eq_true rfl) (Nat.le_of_ble_eq_true rfl) rfl rfl (by simp) ?_
  exact ⟨rfl, rfl⟩
theorem m_take_few {i : Nat} (hi' : i < n) (hn : n < 5) (hg : gn < 6) (hp : ¬ pc i = -1) (hf : enF gs bd i gn 0 = 0) : tk_M y_CP_take w_CP_take 10 1 6 [.ref 0, .int (nI i)] (wd (nI gn, gk, gc, gs, gl, ga, gb) (nI n, lo, hi, ls, hs, mb, pc, bd) p c t) (tk_det (.inr eU) (wd (nI gn, gk, gc, gs, gl, ga, gb) (nI n, lo, hi, ls, hs, mb, pc, bd) p c t)) := by
  refine tk_M.of (lv := [some (.ref 0), some (.int (nI i)), none]) (by decide) (Nat.le_of_ble_eq_true rfl) rfl ?_
  refine tk_iload_n (pc := 0) d_CP_take_0 rfl ?_
  refine tk_aload_n (pc := 1) d_CP_take_1 rfl ?_
  refine tk_get (pc := 2) d_CP_take_2 f_CP_19 rfl rfl ?_
  refine tk_get (pc := 5) d_CP_take_5 f_CP_81 rfl rfl ?_
  refine tk_callSr (pc := 8) d_CP_take_8 l_CP_54 k_CP_requireIndex (c_ri_ok (nI_pos (by omega)) (nI_lt hi' (by omega))) rfl (by omega) (Nat.le_of_ble_eq_true rfl) (Nat.le_of_ble_eq_true rfl) (Nat.le_of_ble_eq_true rfl) rfl rfl ?_
  refine tk_aload_n (pc := 11) d_CP_take_11 rfl ?_
  refine tk_get (pc := 12) d_CP_take_12 f_CP_19 rfl rfl ?_
  refine tk_iload_n (pc := 15) d_CP_take_15 rfl ?_
  refine tk_callVr (pc := 16) d_CP_take_16 l_CP_114 k_H_hasPlan rfl rfl rfl (m_H_hasPlan (k := i) (by omega)) rfl (by omega) (Nat.le_of_ble_eq_true rfl) (Nat.le_of_ble_eq_true rfl) (Nat.le_of_ble_eq_true rfl) rfl rfl ?_
  rw [if_neg (show ¬ pc i = -1 from hp)]
  refine tk_callSr (pc := 19) d_CP_take_19 l_CP_41 k_CP_requireTurn (c_rt_ok (b := 1) (by decide)) rfl (by omega) (Nat.le_of_ble_eq_true rfl) (Nat.le_of_ble_eq_true rfl) (Nat.le_of_ble_eq_true rfl) rfl rfl ?_
  refine tk_aload_n (pc := 22) d_CP_take_22 rfl ?_
  refine tk_iload_n (pc := 23) d_CP_take_23 rfl ?_
  refine tk_callVr (pc := 24) d_CP_take_24 l_CP_157 k_CP_enoughLeft rfl rfl rfl (m_enough (ht := i) hg (by omega)) rfl (by omega) (Nat.le_of_ble_eq_true rfl) (Nat.le_of_ble_eq_true rfl) (Nat.le_of_ble_eq_true rfl) rfl rfl ?_
  rw [hf]
  refine tk_callSx (pc := 27) d_CP_take_27 l_CP_78 k_CP_requireMeaning (c_rm_no) rfl (by omega) (Nat.le_of_ble_eq_true rfl) (Nat.le_of_ble_eq_true rfl) (Nat.le_of_ble_eq_true rfl) rfl rfl (by simp) ?_
  exact ⟨rfl, rfl⟩
theorem m_take_ok {i : Nat} (hi' : i < n) (hn : n < 5) (hg : gn < 6) (hp : ¬ pc i = -1) (hf : ¬ enF gs bd i gn 0 = 0) : tk_M y_CP_take w_CP_take 10 1 6 [.ref 0, .int (nI i)] (wd (nI gn, gk, gc, gs, gl, ga, gb) (nI n, lo, hi, ls, hs, mb, pc, bd) p c t) (tk_det (.inl (some (.int (pc i)))) (wd (nI gn, gk, gc, tkf gs bd i gn, gl, ga, gb) (nI n, lo, hi, ls, hs, mb, upd pc i (-1), bd) p c t)) := by
  refine tk_M.of (lv := [some (.ref 0), some (.int (nI i)), none]) (by decide) (Nat.le_of_ble_eq_true rfl) rfl ?_
  refine tk_iload_n (pc := 0) d_CP_take_0 rfl ?_
  refine tk_aload_n (pc := 1) d_CP_take_1 rfl ?_
  refine tk_get (pc := 2) d_CP_take_2 f_CP_19 rfl rfl ?_
  refine tk_get (pc := 5) d_CP_take_5 f_CP_81 rfl rfl ?_
  refine tk_callSr (pc := 8) d_CP_take_8 l_CP_54 k_CP_requireIndex (c_ri_ok (nI_pos (by omega)) (nI_lt hi' (by omega))) rfl (by omega) (Nat.le_of_ble_eq_true rfl) (Nat.le_of_ble_eq_true rfl) (Nat.le_of_ble_eq_true rfl) rfl rfl ?_
  refine tk_aload_n (pc := 11) d_CP_take_11 rfl ?_
  refine tk_get (pc := 12) d_CP_take_12 f_CP_19 rfl rfl ?_
  refine tk_iload_n (pc := 15) d_CP_take_15 rfl ?_
  refine tk_callVr (pc := 16) d_CP_take_16 l_CP_114 k_H_hasPlan rfl rfl rfl (m_H_hasPlan (k := i) (by omega)) rfl (by omega) (Nat.le_of_ble_eq_true rfl) (Nat.le_of_ble_eq_true rfl) (Nat.le_of_ble_eq_true rfl) rfl rfl ?_
  rw [if_neg (show ¬ pc i = -1 from hp)]
  refine tk_callSr (pc := 19) d_CP_take_19 l_CP_41 k_CP_requireTurn (c_rt_ok (b := 1) (by decide)) rfl (by omega) (Nat.le_of_ble_eq_true rfl) (Nat.le_of_ble_eq_true rfl) (Nat.le_of_ble_eq_true rfl) rfl rfl ?_
  refine tk_aload_n (pc := 22) d_CP_take_22 rfl ?_
  refine tk_iload_n (pc := 23) d_CP_take_23 rfl ?_
  refine tk_callVr (pc := 24) d_CP_take_24 l_CP_157 k_CP_enoughLeft rfl rfl rfl (m_enough (ht := i) hg (by omega)) rfl (by omega) (Nat.le_of_ble_eq_true rfl) (Nat.le_of_ble_eq_true rfl) (Nat.le_of_ble_eq_true rfl) rfl rfl ?_
  refine tk_callSr (pc := 27) d_CP_take_27 l_CP_78 k_CP_requireMeaning (c_rm_ok hf) rfl (by omega) (Nat.le_of_ble_eq_true rfl) (Nat.le_of_ble_eq_true rfl) (Nat.le_of_ble_eq_true rfl) rfl rfl ?_
  refine tk_iconst (pc := 30) (v := 0) d_CP_take_30 (by decide) ?_
  refine tk_istore2 (pc := 31) d_CP_take_31 rfl (by decide) ?_
  have key : ∀ (m k : Nat), k + m = gn → tk_T y_CP_take c_CP_take 3 (some .int) [] 10 1 6 (fun _ => none) 0 0 (tk_det (.inl (some (.int (pc i)))) (wd (nI gn, gk, gc, tkf gs bd i gn, gl, ga, gb) (nI n, lo, hi, ls, hs, mb, upd pc i (-1), bd) p c t)) 32 [some (.ref 0), some (.int (nI i)), some (.int (nI k))] [] (wd (nI gn, gk, gc, tkf gs bd i k, gl, ga, gb) (nI n, lo, hi, ls, hs, mb, pc, bd) p c t) := by
    intro m
    induction m with
    | zero =>
      intro k hk
      obtain rfl : k = gn := by omega
      refine tk_iload_n (pc := 32) d_CP_take_32 rfl ?_
      refine tk_aload_n (pc := 33) d_CP_take_33 rfl ?_
      refine tk_get (pc := 34) d_CP_take_34 f_CP_10 rfl rfl ?_
      refine tk_get (pc := 37) d_CP_take_37 f_CP_37 rfl rfl ?_
      refine tk_icmp_ge (pc := 40) (tgt := 74) d_CP_take_40 (by decide) (fun hb => ?_) (fun hb => ?_)
      · refine tk_aload_n (pc := 74) d_CP_take_74 rfl ?_
        refine tk_get (pc := 75) d_CP_take_75 f_CP_19 rfl rfl ?_
        refine tk_get (pc := 78) d_CP_take_78 f_CP_160 rfl rfl ?_
        refine tk_iload_n (pc := 81) d_CP_take_81 rfl ?_
        refine tk_iald (pc := 82) i d_CP_take_82 rfl rfl (by omega) (by decide) ?_
        refine tk_istore2 (pc := 83) d_CP_take_83 rfl (by decide) ?_
        refine tk_aload_n (pc := 84) d_CP_take_84 rfl ?_
        refine tk_get (pc := 85) d_CP_take_85 f_CP_19 rfl rfl ?_
        refine tk_get (pc := 88) d_CP_take_88 f_CP_160 rfl rfl ?_
        refine tk_iload_n (pc := 91) d_CP_take_91 rfl ?_
        refine tk_iconst (pc := 92) (v := -1) d_CP_take_92 (by decide) ?_
        refine tk_iast (pc := 93) i d_CP_take_93 rfl rfl (by omega) (by decide) ?_
        refine tk_iload_n (pc := 94) d_CP_take_94 rfl ?_
        exact tk_ireturn (pc := 95) d_CP_take_95 rfl rfl (Nat.le_of_ble_eq_true rfl) (Nat.le_of_ble_eq_true rfl) ⟨rfl, rfl⟩
      · exact absurd ((nI_leI (a := k) (b := k) (by omega) (by omega)).mpr (Nat.le_refl _)) hb
    | succ m ih =>
      intro k hk
      refine tk_iload_n (pc := 32) d_CP_take_32 rfl ?_
      refine tk_aload_n (pc := 33) d_CP_take_33 rfl ?_
      refine tk_get (pc := 34) d_CP_take_34 f_CP_10 rfl rfl ?_
      refine tk_get (pc := 37) d_CP_take_37 f_CP_37 rfl rfl ?_
      refine tk_icmp_ge (pc := 40) (tgt := 74) d_CP_take_40 (by decide) (fun hb => ?_) (fun hb => ?_)
      · exact absurd ((nI_leI (a := gn) (b := k) (by omega) (by omega)).mp hb) (by omega)
      refine tk_aload_n (pc := 43) d_CP_take_43 rfl ?_
      refine tk_get (pc := 44) d_CP_take_44 f_CP_10 rfl rfl ?_
      refine tk_get (pc := 47) d_CP_take_47 f_CP_75 rfl rfl ?_
      refine tk_iload_n (pc := 50) d_CP_take_50 rfl ?_
      refine tk_dup2 (pc := 51) d_CP_take_51 rfl rfl ?_
      refine tk_iald (pc := 52) k d_CP_take_52 rfl rfl (by omega) (by decide) ?_
      refine tk_aload_n (pc := 53) d_CP_take_53 rfl ?_
      refine tk_get (pc := 54) d_CP_take_54 f_CP_19 rfl rfl ?_
      refine tk_get (pc := 57) d_CP_take_57 f_CP_118 rfl rfl ?_
      refine tk_iload_n (pc := 60) d_CP_take_60 rfl ?_
      refine tk_iconst (pc := 61) (v := 5) d_CP_take_61 (by decide) ?_
      refine tk_imul (pc := 62) d_CP_take_62 ?_
      refine tk_iload_n (pc := 63) d_CP_take_63 rfl ?_
      refine tk_iadd (pc := 64) d_CP_take_64 ?_
      refine tk_iald (pc := 65) (i*5+k) d_CP_take_65 rfl (ixma i 5 k) (by omega) (by decide) ?_
      refine tk_isub (pc := 66) d_CP_take_66 ?_
      refine tk_iast (pc := 67) k d_CP_take_67 rfl rfl (by omega) (by decide) ?_
      refine tk_jinc2 (pc := 68) d_CP_take_68 rfl (by decide) ?_
      refine tk_goto (pc := 71) (tgt := 32) d_CP_take_71 (by decide) ?_
      refine tk_eq rfl (by rw [inc1]) rfl ?_ (ih (k + 1) (by omega))
      rw [← tkf_s]; rfl
  exact tk_eq rfl rfl rfl (by rw [tkf_0]) (key gn 0 (by omega))
theorem m_bound_no {i : Int32} (hi' : i < 0 ∨ ¬ i < nI n) : tk_M y_CP_bound w_CP_bound 10 1 6 [.ref 0, .int i] (wd (nI gn, gk, gc, gs, gl, ga, gb) (nI n, lo, hi, ls, hs, mb, pc, bd) p c t) (tk_det (.inr eI) (wd (nI gn, gk, gc, gs, gl, ga, gb) (nI n, lo, hi, ls, hs, mb, pc, bd) p c t)) := by
  refine tk_M.of (lv := [some (.ref 0), some (.int i), none, none, none, none, none, none, none]) (by decide) (Nat.le_of_ble_eq_true rfl) rfl ?_
  refine tk_iload_n (pc := 0) d_CP_bound_0 rfl ?_
  refine tk_aload_n (pc := 1) d_CP_bound_1 rfl ?_
  refine tk_get (pc := 2) d_CP_bound_2 f_CP_19 rfl rfl ?_
  refine tk_get (pc := 5) d_CP_bound_5 f_CP_81 rfl rfl ?_
  refine tk_callSx (pc := 8) d_CP_bound_8 l_CP_54 k_CP_requireIndex (c_ri_no hi') rfl (by omega) (Nat.le_of_ble_eq_true rfl) (Nat.le_of_ble_eq_true rfl) (Nat.le_of_ble_eq_true rfl) rfl rfl (by simp) ?_
  exact ⟨rfl, rfl⟩
theorem m_bound_yes {i : Nat} (hi' : i < n) (hn : n < 5) (hg : gn < 6) : tk_M y_CP_bound w_CP_bound 10 1 6 [.ref 0, .int (nI i)] (wd (nI gn, gk, gc, gs, gl, ga, gb) (nI n, lo, hi, ls, hs, mb, pc, bd) p c t) (tk_det (if bdF (nI gn, gk, gc, gs, gl, ga, gb) (lo i) gn = -1 then .inr eU else .inl (some (.long (bdF (nI gn, gk, gc, gs, gl, ga, gb) (lo i) gn)))) (wd (nI gn, gk, gc, gs, gl, ga, gb) (nI n, lo, hi, ls, hs, mb, pc, bd) p c t)) := by
  refine tk_M.of (lv := [some (.ref 0), some (.int (nI i)), none, none, none, none, none, none, none]) (by decide) (Nat.le_of_ble_eq_true rfl) rfl ?_
  refine tk_iload_n (pc := 0) d_CP_bound_0 rfl ?_
  refine tk_aload_n (pc := 1) d_CP_bound_1 rfl ?_
  refine tk_get (pc := 2) d_CP_bound_2 f_CP_19 rfl rfl ?_
  refine tk_get (pc := 5) d_CP_bound_5 f_CP_81 rfl rfl ?_
  refine tk_callSr (pc := 8) d_CP_bound_8 l_CP_54 k_CP_requireIndex (c_ri_ok (nI_pos (by omega)) (nI_lt hi' (by omega))) rfl (by omega) (Nat.le_of_ble_eq_true rfl) (Nat.le_of_ble_eq_true rfl) (Nat.le_of_ble_eq_true rfl) rfl rfl ?_
  refine tk_ldc2 (pc := 11) d_CP_bound_11 q_CP_133 ?_
  refine tk_lstore2 (pc := 14) d_CP_bound_14 rfl (by decide) ?_
  refine tk_iconst (pc := 15) (v := 0) d_CP_bound_15 (by decide) ?_
  refine tk_istore4 (pc := 16) d_CP_bound_16 rfl (by decide) ?_
  generalize hr : (if bdF (nI gn, gk, gc, gs, gl, ga, gb) (lo i) gn = -1 then Sum.inr eU else Sum.inl (some (Value.long (bdF (nI gn, gk, gc, gs, gl, ga, gb) (lo i) gn))) : tk_R) = rr
  have key : ∀ (m k : Nat) (o5 o6 o7 o8 : Option Value), tk_p1 o6 = true → k + m = gn → tk_T y_CP_bound c_CP_bound 9 (some .long) [] 10 1 6 (fun _ => none) 0 0 (tk_det rr (wd (nI gn, gk, gc, gs, gl, ga, gb) (nI n, lo, hi, ls, hs, mb, pc, bd) p c t)) 18 [some (.ref 0), some (.int (nI i)), some (.long (bdF (nI gn, gk, gc, gs, gl, ga, gb) (lo i) k)), none, some (.int (nI k)), o5, o6, o7, o8] [] (wd (nI gn, gk, gc, gs, gl, ga, gb) (nI n, lo, hi, ls, hs, mb, pc, bd) p c t) := by
    intro m
    induction m with
    | zero =>
      intro k o5 o6 o7 o8 ho hk
      obtain rfl : k = gn := by omega
      refine tk_iload (pc := 18) d_CP_bound_18 rfl ?_
      refine tk_aload_n (pc := 20) d_CP_bound_20 rfl ?_
      refine tk_get (pc := 21) d_CP_bound_21 f_CP_10 rfl rfl ?_
      refine tk_get (pc := 24) d_CP_bound_24 f_CP_37 rfl rfl ?_
      refine tk_icmp_ge (pc := 27) (tgt := 120) d_CP_bound_27 (by decide) (fun hb => ?_) (fun hb => ?_)
      · refine tk_lload_n (pc := 120) d_CP_bound_120 rfl ?_
        refine tk_ldc2 (pc := 121) d_CP_bound_121 q_CP_133 ?_
        refine tk_lcmp (pc := 124) d_CP_bound_124 ?_
        refine tk_if_eq (pc := 125) (tgt := 132) d_CP_bound_125 (by decide) (fun hc => ?_) (fun hc => ?_)
        · refine tk_iconst (pc := 132) (v := 0) d_CP_bound_132 (by decide) ?_
          refine tk_callSx (pc := 133) d_CP_bound_133 l_CP_78 k_CP_requireMeaning (c_rm_no) rfl (by omega) (Nat.le_of_ble_eq_true rfl) (Nat.le_of_ble_eq_true rfl) (Nat.le_of_ble_eq_true rfl) rfl rfl (by simp) ?_
          rw [if_pos ((lg_cmp_eq _ _).mp hc)] at hr
          exact ⟨hr, rfl⟩
        · refine tk_iconst (pc := 128) (v := 1) d_CP_bound_128 (by decide) ?_
          refine tk_goto (pc := 129) (tgt := 133) d_CP_bound_129 (by decide) ?_
          refine tk_callSr (pc := 133) d_CP_bound_133 l_CP_78 k_CP_requireMeaning (c_rm_ok (b := 1) (by decide)) rfl (by omega) (Nat.le_of_ble_eq_true rfl) (Nat.le_of_ble_eq_true rfl) (Nat.le_of_ble_eq_true rfl) rfl rfl ?_
          refine tk_lload_n (pc := 136) d_CP_bound_136 rfl ?_
          rw [if_neg (fun q => hc ((lg_cmp_eq _ _).mpr q))] at hr
          exact tk_lreturn (pc := 137) d_CP_bound_137 rfl (Nat.le_of_ble_eq_true rfl) (Nat.le_of_ble_eq_true rfl) ⟨hr, rfl⟩
      · exact absurd ((nI_leI (a := k) (b := k) (by omega) (by omega)).mpr (Nat.le_refl _)) hb
    | succ m ih =>
      intro k o5 o6 o7 o8 ho hk
      refine tk_iload (pc := 18) d_CP_bound_18 rfl ?_
      refine tk_aload_n (pc := 20) d_CP_bound_20 rfl ?_
      refine tk_get (pc := 21) d_CP_bound_21 f_CP_10 rfl rfl ?_
      refine tk_get (pc := 24) d_CP_bound_24 f_CP_37 rfl rfl ?_
      refine tk_icmp_ge (pc := 27) (tgt := 120) d_CP_bound_27 (by decide) (fun hb => ?_) (fun hb => ?_)
      · exact absurd ((nI_leI (a := gn) (b := k) (by omega) (by omega)).mp hb) (by omega)
      refine tk_aload_n (pc := 30) d_CP_bound_30 rfl ?_
      refine tk_get (pc := 31) d_CP_bound_31 f_CP_10 rfl rfl ?_
      refine tk_get (pc := 34) d_CP_bound_34 f_CP_135 rfl rfl ?_
      refine tk_iload (pc := 37) d_CP_bound_37 rfl ?_
      refine tk_iald (pc := 39) k d_CP_bound_39 rfl rfl (by omega) (by decide) ?_
      refine tk_i2l (pc := 40) d_CP_bound_40 ?_
      refine tk_lstore5 (pc := 41) d_CP_bound_41 rfl (by decide) ?_
      refine tk_aload_n (pc := 43) d_CP_bound_43 rfl ?_
      refine tk_get (pc := 44) d_CP_bound_44 f_CP_10 rfl rfl ?_
      refine tk_iload (pc := 47) d_CP_bound_47 rfl ?_
      refine tk_callVr (pc := 49) d_CP_bound_49 l_CP_138 k_G_room rfl rfl rfl (m_G_room (k := k) (by omega)) rfl (by omega) (Nat.le_of_ble_eq_true rfl) (Nat.le_of_ble_eq_true rfl) (Nat.le_of_ble_eq_true rfl) rfl rfl ?_
      have skip : ¬ (0 < rmin (nI gn, gk, gc, gs, gl, ga, gb) k ∧ (0 : Int64) < (gk k).toInt64) → ∀ (v5 : Option Value) , tk_p1 none = true → tk_T y_CP_bound c_CP_bound 9 (some .long) [] 10 1 6 (fun _ => none) 0 0 (tk_det rr (wd (nI gn, gk, gc, gs, gl, ga, gb) (nI n, lo, hi, ls, hs, mb, pc, bd) p c t)) 114 [some (.ref 0), some (.int (nI i)), some (.long (bdF (nI gn, gk, gc, gs, gl, ga, gb) (lo i) k)), none, some (.int (nI k)), v5, none, o7, o8] [] (wd (nI gn, gk, gc, gs, gl, ga, gb) (nI n, lo, hi, ls, hs, mb, pc, bd) p c t) := by
        intro hno v5 _
        refine tk_jinc4 (pc := 114) d_CP_bound_114 rfl (by decide) ?_
        refine tk_goto (pc := 117) (tgt := 18) d_CP_bound_117 (by decide) ?_
        refine tk_eq rfl ?_ rfl rfl (ih (k + 1) v5 none o7 o8 rfl (by omega))
        rw [inc1]
        simp only [bdF]
        rw [if_neg hno]
      refine tk_if_le (pc := 52) (tgt := 114) d_CP_bound_52 (by decide) (fun hc => ?_) (fun hc => ?_)
      · exact skip (fun q => absurd q.1 (by rw [Int32.not_lt]; exact hc)) _ rfl
      refine tk_lload (pc := 55) d_CP_bound_55 rfl ?_
      refine tk_lconst (pc := 57) (v := 0) d_CP_bound_57 (by decide) ?_
      refine tk_lcmp (pc := 58) d_CP_bound_58 ?_
      refine tk_if_le (pc := 59) (tgt := 114) d_CP_bound_59 (by decide) (fun hd => ?_) (fun hd => ?_)
      · exact skip (fun q => absurd q.2 (by rw [Int64.not_lt]; exact (lg_cmp_le _ _).mp hd)) _ rfl
      have hyes : 0 < rmin (nI gn, gk, gc, gs, gl, ga, gb) k ∧ (0 : Int64) < (gk k).toInt64 := ⟨by rw [← Int32.not_le]; exact hc, by rw [← Int64.not_le]; exact fun q => hd ((lg_cmp_le _ _).mpr q)⟩
      have hk0 : ¬ (gk k).toInt64 = 0 := fun q => by have := hyes.2; rw [q] at this; exact absurd this (by decide)
      refine tk_aload_n (pc := 62) d_CP_bound_62 rfl ?_
      refine tk_get (pc := 63) d_CP_bound_63 f_CP_19 rfl rfl ?_
      refine tk_get (pc := 66) d_CP_bound_66 f_CP_142 rfl rfl ?_
      refine tk_iload_n (pc := 69) d_CP_bound_69 rfl ?_
      refine tk_iald (pc := 70) i d_CP_bound_70 rfl rfl (by omega) (by decide) ?_
      refine tk_i2l (pc := 71) d_CP_bound_71 ?_
      refine tk_aload_n (pc := 72) d_CP_bound_72 rfl ?_
      refine tk_get (pc := 73) d_CP_bound_73 f_CP_10 rfl rfl ?_
      refine tk_get (pc := 76) d_CP_bound_76 f_CP_145 rfl rfl ?_
      refine tk_iload (pc := 79) d_CP_bound_79 rfl ?_
      refine tk_iald (pc := 81) k d_CP_bound_81 rfl rfl (by omega) (by decide) ?_
      refine tk_i2l (pc := 82) d_CP_bound_82 ?_
      refine tk_lmul (pc := 83) d_CP_bound_83 ?_
      refine tk_lload (pc := 84) d_CP_bound_84 rfl ?_
      refine tk_ladd (pc := 86) d_CP_bound_86 ?_
      refine tk_lconst (pc := 87) (v := 1) d_CP_bound_87 (by decide) ?_
      refine tk_lsub (pc := 88) d_CP_bound_88 ?_
      refine tk_lload (pc := 89) d_CP_bound_89 rfl ?_
      refine tk_ldiv (pc := 91) d_CP_bound_91 hk0 ?_
      refine tk_lstore7 (pc := 92) d_CP_bound_92 rfl (by decide) ?_
      refine tk_lload_n (pc := 94) d_CP_bound_94 rfl ?_
      refine tk_ldc2 (pc := 95) d_CP_bound_95 q_CP_133 ?_
      refine tk_lcmp (pc := 98) d_CP_bound_98 ?_
      refine tk_if_ne (pc := 99) (tgt := 107) d_CP_bound_99 (by decide) (fun he => ?_) (fun he => ?_)
      · refine tk_lload_n (pc := 107) d_CP_bound_107 rfl ?_
        refine tk_lload (pc := 108) d_CP_bound_108 rfl ?_
        refine tk_mminL (pc := 110) d_CP_bound_110 z_CP_minL z_minL1 z_math z_minL2 (Nat.le_of_ble_eq_true rfl) (Nat.le_of_ble_eq_true rfl) (Nat.le_of_ble_eq_true rfl) ?_
        refine tk_lstore2 (pc := 113) d_CP_bound_113 rfl (by decide) ?_
        refine tk_jinc4 (pc := 114) d_CP_bound_114 rfl (by decide) ?_
        refine tk_goto (pc := 117) (tgt := 18) d_CP_bound_117 (by decide) ?_
        refine tk_eq rfl ?_ rfl rfl (ih (k + 1) (some (.long (gk k).toInt64)) none (some (.long (((lo i).toInt64 * (gc k).toInt64 + (gk k).toInt64 - 1) / (gk k).toInt64))) none rfl (by omega))
        rw [inc1]
        have e1 : bdF (nI gn, gk, gc, gs, gl, ga, gb) (lo i) (k + 1) = if ((lo i).toInt64 * (gc k).toInt64 + (gk k).toInt64 - 1) / (gk k).toInt64 < bdF (nI gn, gk, gc, gs, gl, ga, gb) (lo i) k then ((lo i).toInt64 * (gc k).toInt64 + (gk k).toInt64 - 1) / (gk k).toInt64 else bdF (nI gn, gk, gc, gs, gl, ga, gb) (lo i) k := by
          show (if _ ∧ _ then _ else _) = _
          rw [if_pos hyes, if_neg (fun q => he ((lg_cmp_eq _ _).mpr q))]
        rw [e1]
      · refine tk_lload (pc := 102) d_CP_bound_102 rfl ?_
        refine tk_goto (pc := 104) (tgt := 113) d_CP_bound_104 (by decide) ?_
        refine tk_lstore2 (pc := 113) d_CP_bound_113 rfl (by decide) ?_
        refine tk_jinc4 (pc := 114) d_CP_bound_114 rfl (by decide) ?_
        refine tk_goto (pc := 117) (tgt := 18) d_CP_bound_117 (by decide) ?_
        refine tk_eq rfl ?_ rfl rfl (ih (k + 1) (some (.long (gk k).toInt64)) none (some (.long (((lo i).toInt64 * (gc k).toInt64 + (gk k).toInt64 - 1) / (gk k).toInt64))) none rfl (by omega))
        rw [inc1]
        have e1 : bdF (nI gn, gk, gc, gs, gl, ga, gb) (lo i) (k + 1) = ((lo i).toInt64 * (gc k).toInt64 + (gk k).toInt64 - 1) / (gk k).toInt64 := by
          show (if _ ∧ _ then _ else _) = _
          rw [if_pos hyes, if_pos ((lg_cmp_eq _ _).mp he)]
        rw [e1]
  exact key gn 0 none none none none rfl (by omega)
theorem m_worst_no {i e d k : Int32} (hi' : (i < 0 ∨ ¬ i < nI n) ∨ (e < 0 ∨ ¬ e < 4) ∨ (d < 0 ∨ ¬ d < 2) ∨ (k < 0 ∨ ¬ k < 2)) : tk_M y_CP_worst w_CP_worst 10 1 6 [.ref 0, .int i, .int e, .int d, .int k] (wd (nI gn, gk, gc, gs, gl, ga, gb) (nI n, lo, hi, ls, hs, mb, pc, bd) p c t) (tk_det (.inr eI) (wd (nI gn, gk, gc, gs, gl, ga, gb) (nI n, lo, hi, ls, hs, mb, pc, bd) p c t)) := by
  refine tk_M.of (lv := [some (.ref 0), some (.int i), some (.int e), some (.int d), some (.int k), none, none, none, none]) (by decide) (Nat.le_of_ble_eq_true rfl) rfl ?_
  refine tk_iload_n (pc := 0) d_CP_worst_0 rfl ?_
  refine tk_aload_n (pc := 1) d_CP_worst_1 rfl ?_
  refine tk_get (pc := 2) d_CP_worst_2 f_CP_19 rfl rfl ?_
  refine tk_get (pc := 5) d_CP_worst_5 f_CP_81 rfl rfl ?_
  by_cases h1 : i < 0 ∨ ¬ i < nI n
  · refine tk_callSx (pc := 8) d_CP_worst_8 l_CP_54 k_CP_requireIndex (c_ri_no h1) rfl (by omega) (Nat.le_of_ble_eq_true rfl) (Nat.le_of_ble_eq_true rfl) (Nat.le_of_ble_eq_true rfl) rfl rfl (by simp) ?_
    exact ⟨rfl, rfl⟩
  refine tk_callSr (pc := 8) d_CP_worst_8 l_CP_54 k_CP_requireIndex (c_ri_ok (fun z => h1 (Or.inl z)) (Classical.not_not.mp (fun z => h1 (Or.inr z)))) rfl (by omega) (Nat.le_of_ble_eq_true rfl) (Nat.le_of_ble_eq_true rfl) (Nat.le_of_ble_eq_true rfl) rfl rfl ?_
  refine tk_iload_n (pc := 11) d_CP_worst_11 rfl ?_
  refine tk_iconst (pc := 12) (v := 4) d_CP_worst_12 (by decide) ?_
  by_cases h2 : e < 0 ∨ ¬ e < 4
  · refine tk_callSx (pc := 13) d_CP_worst_13 l_CP_54 k_CP_requireIndex (c_ri_no h2) rfl (by omega) (Nat.le_of_ble_eq_true rfl) (Nat.le_of_ble_eq_true rfl) (Nat.le_of_ble_eq_true rfl) rfl rfl (by simp) ?_
    exact ⟨rfl, rfl⟩
  refine tk_callSr (pc := 13) d_CP_worst_13 l_CP_54 k_CP_requireIndex (c_ri_ok (fun z => h2 (Or.inl z)) (Classical.not_not.mp (fun z => h2 (Or.inr z)))) rfl (by omega) (Nat.le_of_ble_eq_true rfl) (Nat.le_of_ble_eq_true rfl) (Nat.le_of_ble_eq_true rfl) rfl rfl ?_
  refine tk_iload_n (pc := 16) d_CP_worst_16 rfl ?_
  refine tk_iconst (pc := 17) (v := 2) d_CP_worst_17 (by decide) ?_
  by_cases h3 : d < 0 ∨ ¬ d < 2
  · refine tk_callSx (pc := 18) d_CP_worst_18 l_CP_54 k_CP_requireIndex (c_ri_no h3) rfl (by omega) (Nat.le_of_ble_eq_true rfl) (Nat.le_of_ble_eq_true rfl) (Nat.le_of_ble_eq_true rfl) rfl rfl (by simp) ?_
    exact ⟨rfl, rfl⟩
  refine tk_callSr (pc := 18) d_CP_worst_18 l_CP_54 k_CP_requireIndex (c_ri_ok (fun z => h3 (Or.inl z)) (Classical.not_not.mp (fun z => h3 (Or.inr z)))) rfl (by omega) (Nat.le_of_ble_eq_true rfl) (Nat.le_of_ble_eq_true rfl) (Nat.le_of_ble_eq_true rfl) rfl rfl ?_
  refine tk_iload (pc := 21) d_CP_worst_21 rfl ?_
  refine tk_iconst (pc := 23) (v := 2) d_CP_worst_23 (by decide) ?_
  refine tk_callSx (pc := 24) d_CP_worst_24 l_CP_54 k_CP_requireIndex (c_ri_no (((hi'.resolve_left h1).resolve_left h2).resolve_left h3)) rfl (by omega) (Nat.le_of_ble_eq_true rfl) (Nat.le_of_ble_eq_true rfl) (Nat.le_of_ble_eq_true rfl) rfl rfl (by simp) ?_
  exact ⟨rfl, rfl⟩
theorem m_worst_yes {i e : Nat} {d k : Int32} (hi' : i < n) (hn : n < 5) (hg : gn < 6) (he : e < 4) (h3 : ¬ (d < 0 ∨ ¬ d < 2)) (h4 : ¬ (k < 0 ∨ ¬ k < 2)) : tk_M y_CP_worst w_CP_worst 10 1 6 [.ref 0, .int (nI i), .int (nI e), .int d, .int k] (wd (nI gn, gk, gc, gs, gl, ga, gb) (nI n, lo, hi, ls, hs, mb, pc, bd) p c t) (tk_det (if pc i = -1 then .inr eS else if pkl bd gk i gn ≤ 0 then .inr eU else .inl (some (.long ((if k = 0 then psh bd gk (if d = 0 then ga else gb) i e gn else pkl bd gk i gn) / cdv (psh bd gk (if d = 0 then ga else gb) i e gn) (pkl bd gk i gn))))) (wd (nI gn, gk, gc, gs, gl, ga, gb) (nI n, lo, hi, ls, hs, mb, pc, bd) p c t)) := by
  refine tk_M.of (lv := [some (.ref 0), some (.int (nI i)), some (.int (nI e)), some (.int d), some (.int k), none, none, none, none]) (by decide) (Nat.le_of_ble_eq_true rfl) rfl ?_
  refine tk_iload_n (pc := 0) d_CP_worst_0 rfl ?_
  refine tk_aload_n (pc := 1) d_CP_worst_1 rfl ?_
  refine tk_get (pc := 2) d_CP_worst_2 f_CP_19 rfl rfl ?_
  refine tk_get (pc := 5) d_CP_worst_5 f_CP_81 rfl rfl ?_
  refine tk_callSr (pc := 8) d_CP_worst_8 l_CP_54 k_CP_requireIndex (c_ri_ok (nI_pos (by omega)) (nI_lt hi' (by omega))) rfl (by omega) (Nat.le_of_ble_eq_true rfl) (Nat.le_of_ble_eq_true rfl) (Nat.le_of_ble_eq_true rfl) rfl rfl ?_
  refine tk_iload_n (pc := 11) d_CP_worst_11 rfl ?_
  refine tk_iconst (pc := 12) (v := 4) d_CP_worst_12 (by decide) ?_
  refine tk_callSr (pc := 13) d_CP_worst_13 l_CP_54 k_CP_requireIndex (c_ri_ok (nI_pos (by omega)) (nI_lt (b := 4) he (by omega))) rfl (by omega) (Nat.le_of_ble_eq_true rfl) (Nat.le_of_ble_eq_true rfl) (Nat.le_of_ble_eq_true rfl) rfl rfl ?_
  refine tk_iload_n (pc := 16) d_CP_worst_16 rfl ?_
  refine tk_iconst (pc := 17) (v := 2) d_CP_worst_17 (by decide) ?_
  refine tk_callSr (pc := 18) d_CP_worst_18 l_CP_54 k_CP_requireIndex (c_ri_ok (fun z => h3 (Or.inl z)) (Classical.not_not.mp (fun z => h3 (Or.inr z)))) rfl (by omega) (Nat.le_of_ble_eq_true rfl) (Nat.le_of_ble_eq_true rfl) (Nat.le_of_ble_eq_true rfl) rfl rfl ?_
  refine tk_iload (pc := 21) d_CP_worst_21 rfl ?_
  refine tk_iconst (pc := 23) (v := 2) d_CP_worst_23 (by decide) ?_
  refine tk_callSr (pc := 24) d_CP_worst_24 l_CP_54 k_CP_requireIndex (c_ri_ok (fun z => h4 (Or.inl z)) (Classical.not_not.mp (fun z => h4 (Or.inr z)))) rfl (by omega) (Nat.le_of_ble_eq_true rfl) (Nat.le_of_ble_eq_true rfl) (Nat.le_of_ble_eq_true rfl) rfl rfl ?_
  refine tk_aload_n (pc := 27) d_CP_worst_27 rfl ?_
  refine tk_get (pc := 28) d_CP_worst_28 f_CP_19 rfl rfl ?_
  refine tk_iload_n (pc := 31) d_CP_worst_31 rfl ?_
  refine tk_callVr (pc := 32) d_CP_worst_32 l_CP_114 k_H_hasPlan rfl rfl rfl (m_H_hasPlan (k := i) (by omega)) rfl (by omega) (Nat.le_of_ble_eq_true rfl) (Nat.le_of_ble_eq_true rfl) (Nat.le_of_ble_eq_true rfl) rfl rfl ?_
  by_cases hp : pc i = -1
  · rw [if_pos hp, if_pos (show pc i = -1 from hp)]
    refine tk_callSx (pc := 35) d_CP_worst_35 l_CP_41 k_CP_requireTurn (c_rt_no) rfl (by omega) (Nat.le_of_ble_eq_true rfl) (Nat.le_of_ble_eq_true rfl) (Nat.le_of_ble_eq_true rfl) rfl rfl (by simp) ?_
    exact ⟨rfl, rfl⟩
  rw [if_neg hp, if_neg (show ¬ pc i = -1 from hp)]
  refine tk_callSr (pc := 35) d_CP_worst_35 l_CP_41 k_CP_requireTurn (c_rt_ok (b := 1) (by decide)) rfl (by omega) (Nat.le_of_ble_eq_true rfl) (Nat.le_of_ble_eq_true rfl) (Nat.le_of_ble_eq_true rfl) rfl rfl ?_
  refine tk_aload_n (pc := 38) d_CP_worst_38 rfl ?_
  refine tk_iload_n (pc := 39) d_CP_worst_39 rfl ?_
  refine tk_callVr (pc := 40) d_CP_worst_40 l_CP_121 k_CP_plannedKilos rfl rfl rfl (m_pkl (ht := i) hg (by omega)) rfl (by omega) (Nat.le_of_ble_eq_true rfl) (Nat.le_of_ble_eq_true rfl) (Nat.le_of_ble_eq_true rfl) rfl rfl ?_
  generalize hA : pkl bd gk i gn = A
  refine tk_lstore5 (pc := 43) d_CP_worst_43 rfl (by decide) ?_
  refine tk_lload (pc := 45) d_CP_worst_45 rfl ?_
  refine tk_lconst (pc := 47) (v := 0) d_CP_worst_47 (by decide) ?_
  refine tk_lcmp (pc := 48) d_CP_worst_48 ?_
  refine tk_if_le (pc := 49) (tgt := 56) d_CP_worst_49 (by decide) (fun hb => ?_) (fun hb => ?_)
  · rw [if_pos ((lg_cmp_le _ _).mp hb)]
    refine tk_iconst (pc := 56) (v := 0) d_CP_worst_56 (by decide) ?_
    refine tk_callSx (pc := 57) d_CP_worst_57 l_CP_78 k_CP_requireMeaning (c_rm_no) rfl (by omega) (Nat.le_of_ble_eq_true rfl) (Nat.le_of_ble_eq_true rfl) (Nat.le_of_ble_eq_true rfl) rfl rfl (by simp) ?_
    exact ⟨rfl, rfl⟩
  rw [if_neg (fun q => hb ((lg_cmp_le _ _).mpr q))]
  refine tk_iconst (pc := 52) (v := 1) d_CP_worst_52 (by decide) ?_
  refine tk_goto (pc := 53) (tgt := 57) d_CP_worst_53 (by decide) ?_
  refine tk_callSr (pc := 57) d_CP_worst_57 l_CP_78 k_CP_requireMeaning (c_rm_ok (b := 1) (by decide)) rfl (by omega) (Nat.le_of_ble_eq_true rfl) (Nat.le_of_ble_eq_true rfl) (Nat.le_of_ble_eq_true rfl) rfl rfl ?_
  refine tk_aload_n (pc := 60) d_CP_worst_60 rfl ?_
  refine tk_iload_n (pc := 61) d_CP_worst_61 rfl ?_
  refine tk_iload_n (pc := 62) d_CP_worst_62 rfl ?_
  refine tk_iload_n (pc := 63) d_CP_worst_63 rfl ?_
  have tail : ∀ U : Int64, tk_T y_CP_worst c_CP_worst 9 (some .long) [] 10 1 6 (fun _ => none) 0 0 (tk_det (.inl (some (.long ((if k = 0 then U else A) / cdv U A)))) (wd (nI gn, gk, gc, gs, gl, ga, gb) (nI n, lo, hi, ls, hs, mb, pc, bd) p c t)) 87 [some (.ref 0), some (.int (nI i)), some (.int (nI e)), some (.int d), some (.int k), some (.long A), none, none, none] [.long U] (wd (nI gn, gk, gc, gs, gl, ga, gb) (nI n, lo, hi, ls, hs, mb, pc, bd) p c t) := by
    intro U
    have hc0 : ¬ cdv U A = 0 := by
      unfold cdv
      split
      · rename_i h9
        intro q
        rw [q] at h9
        exact absurd h9 (by decide)
      · decide
    refine tk_lstore7 (pc := 87) d_CP_worst_87 rfl (by decide) ?_
    refine tk_iload (pc := 89) d_CP_worst_89 rfl ?_
    refine tk_if_ne (pc := 91) (tgt := 99) d_CP_worst_91 (by decide) (fun hc => ?_) (fun hc => ?_)
    · rw [if_neg hc]
      refine tk_lload (pc := 99) d_CP_worst_99 rfl ?_
      refine tk_lload (pc := 101) d_CP_worst_101 rfl ?_
      refine tk_lload (pc := 103) d_CP_worst_103 rfl ?_
      refine tk_callSr (pc := 105) d_CP_worst_105 l_CP_129 k_CP_commonDivisor (m_cdv (a := U) (b := A)) rfl (by omega) (Nat.le_of_ble_eq_true rfl) (Nat.le_of_ble_eq_true rfl) (Nat.le_of_ble_eq_true rfl) rfl rfl ?_
      refine tk_ldiv (pc := 108) d_CP_worst_108 hc0 ?_
      exact tk_lreturn (pc := 109) d_CP_worst_109 rfl (Nat.le_of_ble_eq_true rfl) (Nat.le_of_ble_eq_true rfl) ⟨rfl, rfl⟩
    · rw [if_pos hc]
      refine tk_lload (pc := 94) d_CP_worst_94 rfl ?_
      refine tk_goto (pc := 96) (tgt := 101) d_CP_worst_96 (by decide) ?_
      refine tk_lload (pc := 101) d_CP_worst_101 rfl ?_
      refine tk_lload (pc := 103) d_CP_worst_103 rfl ?_
      refine tk_callSr (pc := 105) d_CP_worst_105 l_CP_129 k_CP_commonDivisor (m_cdv (a := U) (b := A)) rfl (by omega) (Nat.le_of_ble_eq_true rfl) (Nat.le_of_ble_eq_true rfl) (Nat.le_of_ble_eq_true rfl) rfl rfl ?_
      refine tk_ldiv (pc := 108) d_CP_worst_108 hc0 ?_
      exact tk_lreturn (pc := 109) d_CP_worst_109 rfl (Nat.le_of_ble_eq_true rfl) (Nat.le_of_ble_eq_true rfl) ⟨rfl, rfl⟩
  refine tk_if_ne (pc := 64) (tgt := 77) d_CP_worst_64 (by decide) (fun hc => ?_) (fun hc => ?_)
  · rw [if_neg hc]
    refine tk_aload_n (pc := 77) d_CP_worst_77 rfl ?_
    refine tk_get (pc := 78) d_CP_worst_78 f_CP_10 rfl rfl ?_
    refine tk_get (pc := 81) d_CP_worst_81 f_CP_66 rfl rfl ?_
    refine tk_callVr (pc := 84) d_CP_worst_84 l_CP_125 k_CP_plannedShares rfl rfl rfl (m_pshH (ht := i) (e := e) hg (by omega) he) rfl (by omega) (Nat.le_of_ble_eq_true rfl) (Nat.le_of_ble_eq_true rfl) (Nat.le_of_ble_eq_true rfl) rfl rfl ?_
    exact tail _
  · rw [if_pos hc]
    refine tk_aload_n (pc := 67) d_CP_worst_67 rfl ?_
    refine tk_get (pc := 68) d_CP_worst_68 f_CP_10 rfl rfl ?_
    refine tk_get (pc := 71) d_CP_worst_71 f_CP_62 rfl rfl ?_
    refine tk_goto (pc := 74) (tgt := 84) d_CP_worst_74 (by decide) ?_
    refine tk_callVr (pc := 84) d_CP_worst_84 l_CP_125 k_CP_plannedShares rfl rfl rfl (m_pshL (ht := i) (e := e) hg (by omega) he) rfl (by omega) (Nat.le_of_ble_eq_true rfl) (Nat.le_of_ble_eq_true rfl) (Nat.le_of_ble_eq_true rfl) rfl rfl ?_
    exact tail _
end PUB3
