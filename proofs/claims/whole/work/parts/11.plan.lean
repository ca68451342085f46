/-! ===== Planning ===== -/
theorem tk_ww {y : MethodName} {cc : ByteArray} {nL : Nat} {rt : Option FieldType} {hh : List (Nat × Nat × Nat × Nat)} {d kc ks : Nat} {ro : Nat → Option (Nat × (Nat → Int32))} {cells slots : Nat} {Q : tk_R → tk_W → Prop} {pc : Nat} {lv : List (Option Value)} {st : List Value} {w : tk_W} (w' : tk_W) (hw : w = w') (k : tk_T y cc nL rt hh d kc ks ro cells slots Q pc lv st w') : tk_T y cc nL rt hh d kc ks ro cells slots Q pc lv st w := hw ▸ k
/-- rows, charge, best, bestCents, steps, spent -/
abbrev sT : Type := Ar × Ar × Ar × Int32 × Int32 × Int32
def gvu (f : Ar) (bc : Int32) (k : Nat) : Int32 := if f (k * 12 + 1) ≤ 0 then (if bc = -1 then 0 else if f (k * 12 + 11) < bc then 0 else 1) else 1
def kih (G : Nat) (x : sT) : sT := if brk x.1 (G * 12) 11 = 0 then (x.1, x.2.1, cpf x.2.2.1 x.2.1 0 5, x.1 (G * 12 + 11), x.2.2.2.2.1, x.2.2.2.2.2) else x
/-- one number v of good k is tried, before what comes behind it -/
def try1 (sb : Ar) (k v : Nat) (x : sT) : sT := (if v = 0 then x.1 else adb x.1 sb k 12, upd x.2.1 k (nI v), x.2.2.1, x.2.2.2.1, x.2.2.2.2.1 + 1, x.2.2.2.2.2)
def tryL (rec : sT → sT) (sb : Ar) (al : Int32) (k : Nat) : Nat → Nat → sT → sT
  | 0, _, x => x
  | r + 1, v, x => if x.2.2.2.2.1 < al then tryL rec sb al k r (v + 1) (if gvu (try1 sb k v x).1 (try1 sb k v x).2.2.2.1 (k + 1) = 0 then rec (try1 sb k v x) else try1 sb k v x)
      else (x.1, x.2.1, x.2.2.1, x.2.2.2.1, x.2.2.2.2.1, 1)
def tryF (G : Nat) (R : Nat → Nat) (sb : Ar) (al : Int32) : Nat → Nat → sT → sT
  | 0, _, x => kih G x
  | m + 1, k, x => tryL (tryF G R sb al m (k + 1)) sb al k (R k + 1) 0 (stl x.1 k 12, x.2)
/-- the world where planning stands at x -/
abbrev wP (g : sG) (h : sH) (G : Nat) (rm sb : Ar) (al dn : Int32) (c : sC) (t : tk_W) (x : sT) : tk_W := wd g h ((nI G, rm, sb, x.1), x.2.1, x.2.2.1, x.2.2.2.1, al, x.2.2.2.2.1, x.2.2.2.2.2, dn) c t
theorem m_givenUp {g : sG} {h : sH} {G : Nat} {rm sb : Ar} {al dn : Int32} {c : sC} {t : tk_W} {x : sT} {k : Nat} (hk : k < 6) : tk_M y_P_givenUp w_P_givenUp 1 0 0 [.ref 16, .int (nI k)] (wP g h G rm sb al dn c t x) (tk_det (.inl (some (.int (gvu x.1 x.2.2.2.1 k)))) (wP g h G rm sb al dn c t x)) := by
  refine tk_M.of (lv := [some (.ref 16), some (.int (nI k))]) (by decide) (Nat.le_of_ble_eq_true rfl) rfl ?_
  refine tk_aload_n (pc := 0) d_P_givenUp_0 rfl ?_
  refine tk_get (pc := 1) d_P_givenUp_1 f_P_12 rfl rfl ?_
  refine tk_iload_n (pc := 4) d_P_givenUp_4 rfl ?_
  refine tk_callVr (pc := 5) d_P_givenUp_5 l_P_69 k_S_tooHeavy rfl rfl rfl (m_heavyP (f := x.1) (k := k) hk) rfl (by omega) (Nat.le_of_ble_eq_true rfl) (Nat.le_of_ble_eq_true rfl) (Nat.le_of_ble_eq_true rfl) rfl rfl ?_
  by_cases h1 : x.1 (k * 12 + 1) ≤ 0
  · rw [if_pos h1]
    refine tk_if_ne (pc := 8) (tgt := 34) d_P_givenUp_8 (by decide) (fun hb => ?_) (fun hb => ?_)
    · exact absurd rfl hb
    refine tk_aload_n (pc := 11) d_P_givenUp_11 rfl ?_
    refine tk_get (pc := 12) d_P_givenUp_12 f_P_29 rfl rfl ?_
    refine tk_iconst (pc := 15) (v := -1) d_P_givenUp_15 (by decide) ?_
    refine tk_icmp_eq (pc := 16) (tgt := 38) d_P_givenUp_16 (by decide) (fun hc => ?_) (fun hc => ?_)
    · refine tk_iconst (pc := 38) (v := 0) d_P_givenUp_38 (by decide) ?_
      exact tk_ireturn (pc := 39) d_P_givenUp_39 rfl rfl (Nat.le_of_ble_eq_true rfl) (Nat.le_of_ble_eq_true rfl) ⟨by simp only [gvu]; rw [if_pos h1, if_pos hc], rfl⟩
    refine tk_aload_n (pc := 19) d_P_givenUp_19 rfl ?_
    refine tk_get (pc := 20) d_P_givenUp_20 f_P_12 rfl rfl ?_
    refine tk_iload_n (pc := 23) d_P_givenUp_23 rfl ?_
    refine tk_callVr (pc := 24) d_P_givenUp_24 l_P_72 k_S_cents rfl rfl rfl (m_centsP (f := x.1) (k := k) hk) rfl (by omega) (Nat.le_of_ble_eq_true rfl) (Nat.le_of_ble_eq_true rfl) (Nat.le_of_ble_eq_true rfl) rfl rfl ?_
    refine tk_aload_n (pc := 27) d_P_givenUp_27 rfl ?_
    refine tk_get (pc := 28) d_P_givenUp_28 f_P_29 rfl rfl ?_
    refine tk_icmp_lt (pc := 31) (tgt := 38) d_P_givenUp_31 (by decide) (fun he => ?_) (fun he => ?_)
    · refine tk_iconst (pc := 38) (v := 0) d_P_givenUp_38 (by decide) ?_
      exact tk_ireturn (pc := 39) d_P_givenUp_39 rfl rfl (Nat.le_of_ble_eq_true rfl) (Nat.le_of_ble_eq_true rfl) ⟨by simp only [gvu]; rw [if_pos h1, if_neg hc, if_pos he], rfl⟩
    · refine tk_iconst (pc := 34) (v := 1) d_P_givenUp_34 (by decide) ?_
      refine tk_goto (pc := 35) (tgt := 39) d_P_givenUp_35 (by decide) ?_
      exact tk_ireturn (pc := 39) d_P_givenUp_39 rfl rfl (Nat.le_of_ble_eq_true rfl) (Nat.le_of_ble_eq_true rfl) ⟨by simp only [gvu]; rw [if_pos h1, if_neg hc, if_neg he], rfl⟩
  · rw [if_neg h1]
    refine tk_if_ne (pc := 8) (tgt := 34) d_P_givenUp_8 (by decide) (fun hb => ?_) (fun hb => ?_)
    · refine tk_iconst (pc := 34) (v := 1) d_P_givenUp_34 (by decide) ?_
      refine tk_goto (pc := 35) (tgt := 39) d_P_givenUp_35 (by decide) ?_
      exact tk_ireturn (pc := 39) d_P_givenUp_39 rfl rfl (Nat.le_of_ble_eq_true rfl) (Nat.le_of_ble_eq_true rfl) ⟨by simp only [gvu]; rw [if_neg h1], rfl⟩
    · exact absurd hb (by decide)
theorem m_keepIf {g : sG} {h : sH} {G : Nat} {rm sb : Ar} {al dn : Int32} {c : sC} {t : tk_W} {x : sT} (hG : G < 6) : tk_M y_P_keepIfAllHold w_P_keepIfAllHold 1 0 0 [.ref 16] (wP g h G rm sb al dn c t x) (tk_det (.inl none) (wP g h G rm sb al dn c t (kih G x))) := by
  refine tk_M.of (lv := [some (.ref 16), none]) (by decide) (Nat.le_of_ble_eq_true rfl) rfl ?_
  refine tk_aload_n (pc := 0) d_P_keepIfAllHold_0 rfl ?_
  refine tk_get (pc := 1) d_P_keepIfAllHold_1 f_P_12 rfl rfl ?_
  refine tk_callVr (pc := 4) d_P_keepIfAllHold_4 l_P_76 k_S_broken rfl rfl rfl (m_brokenP (f := x.1) (n := G) hG) rfl (by omega) (Nat.le_of_ble_eq_true rfl) (Nat.le_of_ble_eq_true rfl) (Nat.le_of_ble_eq_true rfl) rfl rfl ?_
  refine tk_if_eq (pc := 7) (tgt := 11) d_P_keepIfAllHold_7 (by decide) (fun hb => ?_) (fun hb => ?_)
  · refine tk_aload_n (pc := 11) d_P_keepIfAllHold_11 rfl ?_
    refine tk_aload_n (pc := 12) d_P_keepIfAllHold_12 rfl ?_
    refine tk_get (pc := 13) d_P_keepIfAllHold_13 f_P_12 rfl rfl ?_
    refine tk_aload_n (pc := 16) d_P_keepIfAllHold_16 rfl ?_
    refine tk_get (pc := 17) d_P_keepIfAllHold_17 f_P_12 rfl rfl ?_
    refine tk_get (pc := 20) d_P_keepIfAllHold_20 f_P_50 rfl rfl ?_
    refine tk_callVr (pc := 23) d_P_keepIfAllHold_23 l_P_72 k_S_cents rfl rfl rfl (m_centsP (f := x.1) (k := G) hG) rfl (by omega) (Nat.le_of_ble_eq_true rfl) (Nat.le_of_ble_eq_true rfl) (Nat.le_of_ble_eq_true rfl) rfl rfl ?_
    refine tk_put (pc := 26) d_P_keepIfAllHold_26 f_P_29 p_P_3 rfl rfl rfl (Nat.le_of_ble_eq_true rfl) rfl ?_
    refine tk_iconst (pc := 29) (v := 0) d_P_keepIfAllHold_29 (by decide) ?_
    refine tk_istore1 (pc := 30) d_P_keepIfAllHold_30 rfl (by decide) ?_
    have key : ∀ (m i : Nat), i + m = 5 → tk_T y_P_keepIfAllHold c_P_keepIfAllHold 2 none [] 1 0 0 (fun _ => none) 0 0 (tk_det (.inl none) (wP g h G rm sb al dn c t (kih G x))) 31 [some (.ref 16), some (.int (nI i))] [] (wP g h G rm sb al dn c t (x.1, x.2.1, cpf x.2.2.1 x.2.1 0 i, x.1 (G * 12 + 11), x.2.2.2.2.1, x.2.2.2.2.2)) := by
      intro m
      induction m with
      | zero =>
        intro i hi'
        obtain rfl : i = 5 := by omega
        refine tk_iload_n (pc := 31) d_P_keepIfAllHold_31 rfl ?_
        refine tk_iconst (pc := 32) (v := 5) d_P_keepIfAllHold_32 (by decide) ?_
        refine tk_icmp_ge (pc := 33) (tgt := 54) d_P_keepIfAllHold_33 (by decide) (fun hc => ?_) (fun hc => ?_)
        · exact tk_return (pc := 54) d_P_keepIfAllHold_54 rfl (Nat.le_of_ble_eq_true rfl) (Nat.le_of_ble_eq_true rfl) ⟨rfl, by simp only [kih]; rw [if_pos hb]⟩
        · exact absurd (show nI 5 ≤ nI 5 from by decide) hc
      | succ m ih =>
        intro i hi'
        refine tk_iload_n (pc := 31) d_P_keepIfAllHold_31 rfl ?_
        refine tk_iconst (pc := 32) (v := 5) d_P_keepIfAllHold_32 (by decide) ?_
        refine tk_icmp_ge (pc := 33) (tgt := 54) d_P_keepIfAllHold_33 (by decide) (fun hc => ?_) (fun hc => ?_)
        · exact absurd ((nI_leI (a := 5) (b := i) (by omega) (by omega)).mp hc) (by omega)
        refine tk_aload_n (pc := 36) d_P_keepIfAllHold_36 rfl ?_
        refine tk_get (pc := 37) d_P_keepIfAllHold_37 f_P_22 rfl rfl ?_
        refine tk_iload_n (pc := 40) d_P_keepIfAllHold_40 rfl ?_
        refine tk_aload_n (pc := 41) d_P_keepIfAllHold_41 rfl ?_
        refine tk_get (pc := 42) d_P_keepIfAllHold_42 f_P_18 rfl rfl ?_
        refine tk_iload_n (pc := 45) d_P_keepIfAllHold_45 rfl ?_
        refine tk_iald (pc := 46) i d_P_keepIfAllHold_46 rfl rfl (by omega) (by decide) ?_
        refine tk_iast (pc := 47) i d_P_keepIfAllHold_47 rfl rfl (by omega) (by decide) ?_
        refine tk_jinc1 (pc := 48) d_P_keepIfAllHold_48 rfl (by decide) ?_
        refine tk_goto (pc := 51) (tgt := 31) d_P_keepIfAllHold_51 (by decide) ?_
        refine tk_eq rfl ?_ rfl ?_ (ih (i + 1) (by omega))
        · rw [inc1]
        · rw [← cpf_s, Nat.zero_add]; rfl
    exact tk_eq rfl rfl rfl (by rw [cpf_0]; rfl) (key 5 0 rfl)
  · exact tk_return (pc := 10) d_P_keepIfAllHold_10 rfl (Nat.le_of_ble_eq_true rfl) (Nat.le_of_ble_eq_true rfl) ⟨rfl, by simp only [kih]; rw [if_neg hb]⟩
set_option maxHeartbeats 1000000 in
theorem m_try {g : sG} {h : sH} {G : Nat} {R : Nat → Nat} {rm sb : Ar} {al dn : Int32} {c : sC} {t : tk_W} (hG : G < 6) (hR : ∀ k, k < G → rm k = nI (R k) ∧ R k < 100) : ∀ (m k : Nat) (x : sT), k + m = G → tk_M y_P_tryNumbers w_P_tryNumbers (2 + m) 0 0 [.ref 16, .int (nI k)] (wP g h G rm sb al dn c t x) (tk_det (.inl none) (wP g h G rm sb al dn c t (tryF G R sb al m k x))) := by
  intro m
  induction m with
  | zero =>
    intro k x hk
    obtain rfl : k = G := by omega
    refine tk_M.of (lv := [some (.ref 16), some (.int (nI k)), none]) (by decide) (Nat.le_of_ble_eq_true rfl) rfl ?_
    refine tk_iload_n (pc := 0) d_P_tryNumbers_0 rfl ?_
    refine tk_aload_n (pc := 1) d_P_tryNumbers_1 rfl ?_
    refine tk_get (pc := 2) d_P_tryNumbers_2 f_P_12 rfl rfl ?_
    refine tk_get (pc := 5) d_P_tryNumbers_5 f_P_50 rfl rfl ?_
    refine tk_icmp_lt (pc := 8) (tgt := 16) d_P_tryNumbers_8 (by decide) (fun hb => ?_) (fun hb => ?_)
    · exact absurd hb (nI_nlt (Nat.le_refl _) (by omega))
    refine tk_aload_n (pc := 11) d_P_tryNumbers_11 rfl ?_
    refine tk_callVr (pc := 12) d_P_tryNumbers_12 l_P_53 k_P_keepIfAllHold rfl rfl rfl (m_keepIf (x := x) hG) rfl (by omega) (Nat.le_of_ble_eq_true rfl) (Nat.le_of_ble_eq_true rfl) (Nat.le_of_ble_eq_true rfl) rfl rfl ?_
    exact tk_return (pc := 15) d_P_tryNumbers_15 rfl (Nat.le_of_ble_eq_true rfl) (Nat.le_of_ble_eq_true rfl) ⟨rfl, rfl⟩
  | succ m IH =>
    intro k x hk
    obtain ⟨hr1, hr2⟩ := hR k (by omega)
    refine tk_M.of (lv := [some (.ref 16), some (.int (nI k)), none]) (by decide) (Nat.le_of_ble_eq_true rfl) rfl ?_
    refine tk_iload_n (pc := 0) d_P_tryNumbers_0 rfl ?_
    refine tk_aload_n (pc := 1) d_P_tryNumbers_1 rfl ?_
    refine tk_get (pc := 2) d_P_tryNumbers_2 f_P_12 rfl rfl ?_
    refine tk_get (pc := 5) d_P_tryNumbers_5 f_P_50 rfl rfl ?_
    refine tk_icmp_lt (pc := 8) (tgt := 16) d_P_tryNumbers_8 (by decide) (fun hb => ?_) (fun hb => ?_)
    · refine tk_aload_n (pc := 16) d_P_tryNumbers_16 rfl ?_
      refine tk_get (pc := 17) d_P_tryNumbers_17 f_P_12 rfl rfl ?_
      refine tk_iload_n (pc := 20) d_P_tryNumbers_20 rfl ?_
      refine tk_callVr (pc := 21) d_P_tryNumbers_21 l_P_56 k_S_settle rfl rfl rfl (m_settleP (f := x.1) (k := k) (by omega)) rfl (by omega) (Nat.le_of_ble_eq_true rfl) (Nat.le_of_ble_eq_true rfl) (Nat.le_of_ble_eq_true rfl) rfl rfl ?_
      refine tk_iconst (pc := 24) (v := 0) d_P_tryNumbers_24 (by decide) ?_
      refine tk_istore2 (pc := 25) d_P_tryNumbers_25 rfl (by decide) ?_
      have key : ∀ (r v : Nat) (z : sT), v + r = R k + 1 → tryL (tryF G R sb al m (k + 1)) sb al k r v z = tryF G R sb al (m + 1) k x → tk_T y_P_tryNumbers c_P_tryNumbers 3 none [] (2 + (m + 1)) 0 0 (fun _ => none) 0 0 (tk_det (.inl none) (wP g h G rm sb al dn c t (tryF G R sb al (m + 1) k x))) 26 [some (.ref 16), some (.int (nI k)), some (.int (nI v))] [] (wP g h G rm sb al dn c t z) := by
        intro r
        induction r with
        | zero =>
          intro v z hv hz
          refine tk_iload_n (pc := 26) d_P_tryNumbers_26 rfl ?_
          refine tk_aload_n (pc := 27) d_P_tryNumbers_27 rfl ?_
          refine tk_get (pc := 28) d_P_tryNumbers_28 f_P_12 rfl rfl ?_
          refine tk_get (pc := 31) d_P_tryNumbers_31 f_P_59 rfl rfl ?_
          refine tk_iload_n (pc := 34) d_P_tryNumbers_34 rfl ?_
          refine tk_iald (pc := 35) k d_P_tryNumbers_35 rfl rfl (by omega) (by decide) ?_
          refine tk_icmp_gt (pc := 36) (tgt := 108) d_P_tryNumbers_36 (by decide) (fun hc => ?_) (fun hc => ?_)
          · exact tk_return (pc := 108) d_P_tryNumbers_108 rfl (Nat.le_of_ble_eq_true rfl) (Nat.le_of_ble_eq_true rfl) ⟨rfl, by rw [← hz]; rfl⟩
          · exact absurd (show rm k < nI v from by rw [hr1]; exact nI_lt (by omega) (by omega)) hc
        | succ r ih =>
          intro v z hv hz
          refine tk_iload_n (pc := 26) d_P_tryNumbers_26 rfl ?_
          refine tk_aload_n (pc := 27) d_P_tryNumbers_27 rfl ?_
          refine tk_get (pc := 28) d_P_tryNumbers_28 f_P_12 rfl rfl ?_
          refine tk_get (pc := 31) d_P_tryNumbers_31 f_P_59 rfl rfl ?_
          refine tk_iload_n (pc := 34) d_P_tryNumbers_34 rfl ?_
          refine tk_iald (pc := 35) k d_P_tryNumbers_35 rfl rfl (by omega) (by decide) ?_
          refine tk_icmp_gt (pc := 36) (tgt := 108) d_P_tryNumbers_36 (by decide) (fun hc => ?_) (fun hc => ?_)
          · exact absurd (show rm k < nI v from hc) (by rw [hr1]; exact nI_nlt (by omega) (by omega))
          refine tk_aload_n (pc := 39) d_P_tryNumbers_39 rfl ?_
          refine tk_get (pc := 40) d_P_tryNumbers_40 f_P_36 rfl rfl ?_
          refine tk_aload_n (pc := 43) d_P_tryNumbers_43 rfl ?_
          refine tk_get (pc := 44) d_P_tryNumbers_44 f_P_33 rfl rfl ?_
          refine tk_icmp_lt (pc := 47) (tgt := 56) d_P_tryNumbers_47 (by decide) (fun he => ?_) (fun he => ?_)
          · have hz' : tryL (tryF G R sb al m (k + 1)) sb al k r (v + 1) (if gvu (try1 sb k v z).1 (try1 sb k v z).2.2.2.1 (k + 1) = 0 then tryF G R sb al m (k + 1) (try1 sb k v z) else try1 sb k v z) = tryF G R sb al (m + 1) k x := by
              rw [← hz]
              show _ = if z.2.2.2.2.1 < al then _ else _
              rw [if_pos he]
            refine tk_aload_n (pc := 56) d_P_tryNumbers_56 rfl ?_
            refine tk_dup (pc := 57) d_P_tryNumbers_57 rfl ?_
            refine tk_get (pc := 58) d_P_tryNumbers_58 f_P_36 rfl rfl ?_
            refine tk_iconst (pc := 61) (v := 1) d_P_tryNumbers_61 (by decide) ?_
            refine tk_iadd (pc := 62) d_P_tryNumbers_62 ?_
            refine tk_put (pc := 63) d_P_tryNumbers_63 f_P_36 p_P_5 rfl rfl rfl (Nat.le_of_ble_eq_true rfl) rfl ?_
            refine tk_iload_n (pc := 66) d_P_tryNumbers_66 rfl ?_
            refine tk_ww (wP g h G rm sb al dn c t (z.1, z.2.1, z.2.2.1, z.2.2.2.1, z.2.2.2.2.1 + 1, z.2.2.2.2.2)) rfl ?_
            have tail : tk_T y_P_tryNumbers c_P_tryNumbers 3 none [] (2 + (m + 1)) 0 0 (fun _ => none) 0 0 (tk_det (.inl none) (wP g h G rm sb al dn c t (tryF G R sb al (m + 1) k x))) 78 [some (.ref 16), some (.int (nI k)), some (.int (nI v))] [] (wP g h G rm sb al dn c t (if v = 0 then z.1 else adb z.1 sb k 12, z.2.1, z.2.2.1, z.2.2.2.1, z.2.2.2.2.1 + 1, z.2.2.2.2.2)) := by
              refine tk_aload_n (pc := 78) d_P_tryNumbers_78 rfl ?_
              refine tk_get (pc := 79) d_P_tryNumbers_79 f_P_18 rfl rfl ?_
              refine tk_iload_n (pc := 82) d_P_tryNumbers_82 rfl ?_
              refine tk_iload_n (pc := 83) d_P_tryNumbers_83 rfl ?_
              refine tk_iast (pc := 84) k d_P_tryNumbers_84 rfl rfl (by omega) (by decide) ?_
              refine tk_aload_n (pc := 85) d_P_tryNumbers_85 rfl ?_
              refine tk_iload_n (pc := 86) d_P_tryNumbers_86 rfl ?_
              refine tk_iconst (pc := 87) (v := 1) d_P_tryNumbers_87 (by decide) ?_
              refine tk_iadd (pc := 88) d_P_tryNumbers_88 ?_
              refine tk_ww (wP g h G rm sb al dn c t (try1 sb k v z)) rfl ?_
              rw [show nI k + 1 = nI (k + 1) from nI_1 k]
              refine tk_callVr (pc := 89) d_P_tryNumbers_89 l_P_65 k_P_givenUp rfl rfl rfl (m_givenUp (x := try1 sb k v z) (k := k + 1) (by omega)) rfl (by omega) (Nat.le_of_ble_eq_true rfl) (Nat.le_of_ble_eq_true rfl) (Nat.le_of_ble_eq_true rfl) rfl rfl ?_
              by_cases hu : gvu (try1 sb k v z).1 (try1 sb k v z).2.2.2.1 (k + 1) = 0
              · rw [if_pos hu] at hz'
                refine tk_if_ne (pc := 92) (tgt := 102) d_P_tryNumbers_92 (by decide) (fun hf => ?_) (fun hf => ?_)
                · exact absurd hu hf
                refine tk_aload_n (pc := 95) d_P_tryNumbers_95 rfl ?_
                refine tk_iload_n (pc := 96) d_P_tryNumbers_96 rfl ?_
                refine tk_iconst (pc := 97) (v := 1) d_P_tryNumbers_97 (by decide) ?_
                refine tk_iadd (pc := 98) d_P_tryNumbers_98 ?_
                rw [show nI k + 1 = nI (k + 1) from nI_1 k]
                refine tk_callVr (pc := 99) d_P_tryNumbers_99 l_P_46 k_P_tryNumbers rfl rfl rfl (IH (k + 1) (try1 sb k v z) (by omega)) rfl (by omega) (Nat.le_of_ble_eq_true rfl) (Nat.le_of_ble_eq_true rfl) (Nat.le_of_ble_eq_true rfl) rfl rfl ?_
                refine tk_jinc2 (pc := 102) d_P_tryNumbers_102 rfl (by decide) ?_
                refine tk_goto (pc := 105) (tgt := 26) d_P_tryNumbers_105 (by decide) ?_
                exact tk_eq rfl (by rw [inc1]) rfl rfl (ih (v + 1) _ (by omega) hz')
              · rw [if_neg hu] at hz'
                refine tk_if_ne (pc := 92) (tgt := 102) d_P_tryNumbers_92 (by decide) (fun hf => ?_) (fun hf => ?_)
                · refine tk_jinc2 (pc := 102) d_P_tryNumbers_102 rfl (by decide) ?_
                  refine tk_goto (pc := 105) (tgt := 26) d_P_tryNumbers_105 (by decide) ?_
                  exact tk_eq rfl (by rw [inc1]) rfl rfl (ih (v + 1) _ (by omega) hz')
                · exact absurd hf hu
            refine tk_if_le (pc := 67) (tgt := 78) d_P_tryNumbers_67 (by decide) (fun hf => ?_) (fun hf => ?_)
            · have hv0 : v = 0 := by
                rcases Nat.eq_zero_or_pos v with q | q
                · exact q
                · exact absurd hf (nI_nle q (by omega))
              refine tk_eq rfl rfl rfl ?_ tail
              rw [if_pos hv0]
            · have hv0 : ¬ v = 0 := fun q => hf (by rw [q]; decide)
              refine tk_aload_n (pc := 70) d_P_tryNumbers_70 rfl ?_
              refine tk_get (pc := 71) d_P_tryNumbers_71 f_P_12 rfl rfl ?_
              refine tk_iload_n (pc := 74) d_P_tryNumbers_74 rfl ?_
              refine tk_callVr (pc := 75) d_P_tryNumbers_75 l_P_62 k_S_addBundle rfl rfl rfl (m_addP (f := z.1) (k := k) (by omega)) rfl (by omega) (Nat.le_of_ble_eq_true rfl) (Nat.le_of_ble_eq_true rfl) (Nat.le_of_ble_eq_true rfl) rfl rfl ?_
              refine tk_eq rfl rfl rfl ?_ tail
              rw [if_neg hv0]
          · refine tk_aload_n (pc := 50) d_P_tryNumbers_50 rfl ?_
            refine tk_iconst (pc := 51) (v := 1) d_P_tryNumbers_51 (by decide) ?_
            refine tk_put (pc := 52) d_P_tryNumbers_52 f_P_39 p_P_6 rfl rfl rfl (Nat.le_of_ble_eq_true rfl) rfl ?_
            exact tk_return (pc := 55) d_P_tryNumbers_55 rfl (Nat.le_of_ble_eq_true rfl) (Nat.le_of_ble_eq_true rfl) ⟨rfl, by rw [← hz]; show _ = wP g h G rm sb al dn c t (if z.2.2.2.2.1 < al then _ else _); rw [if_neg he]; rfl⟩
      exact key (R k + 1) 0 (stl x.1 k 12, x.2) (by omega) rfl
    · exact absurd (nI_lt (by omega) (by omega)) hb
theorem m_search {gn : Nat} {gt : Ar × Ar × Ar × Ar × Ar × Ar} {h : sH} {c : sC} {t : tk_W} {sn : Int32} {sr sb f ch be : Ar} {q : Int32 × Int32 × Int32 × Int32 × Int32} {R : Nat → Nat} {ht : Nat} {al : Int32} (hg : gn < 6) (hh : ht < 4) (hR : ∀ k, k < gn → rmin (nI gn, gt) k = nI (R k) ∧ R k < 100) :
    tk_M y_P_search w_P_search 8 0 0 [.ref 16, .ref 1, .ref 8, .int (nI ht), .int al] (wd (nI gn, gt) h ((sn, sr, sb, f), ch, be, q) c t) (tk_det (.inl none) (wP (nI gn, gt) h gn (rmf (nI gn, gt) sr gn) (pbf (nI gn, gt) h ht sb gn) al 1 c t (tryF gn R (pbf (nI gn, gt) h ht sb gn) al gn 0 (ldR f h ht, ch, be, -1, 0, 0)))) := by
  refine tk_M.of (lv := [some (.ref 16), some (.ref 1), some (.ref 8), some (.int (nI ht)), some (.int al)]) (by decide) (Nat.le_of_ble_eq_true rfl) rfl ?_
  refine tk_aload_n (pc := 0) d_P_search_0 rfl ?_
  refine tk_get (pc := 1) d_P_search_1 f_P_12 rfl rfl ?_
  refine tk_aload_n (pc := 4) d_P_search_4 rfl ?_
  refine tk_aload_n (pc := 5) d_P_search_5 rfl ?_
  refine tk_iload_n (pc := 6) d_P_search_6 rfl ?_
  refine tk_callVr (pc := 7) d_P_search_7 l_P_25 k_S_load rfl rfl rfl (m_loadP (gn := gn) (gt := gt) (f := f) (ht := ht) hg hh) rfl (by omega) (Nat.le_of_ble_eq_true rfl) (Nat.le_of_ble_eq_true rfl) (Nat.le_of_ble_eq_true rfl) rfl rfl ?_
  refine tk_aload_n (pc := 10) d_P_search_10 rfl ?_
  refine tk_iconst (pc := 11) (v := -1) d_P_search_11 (by decide) ?_
  refine tk_put (pc := 12) d_P_search_12 f_P_29 p_P_3 rfl rfl rfl (Nat.le_of_ble_eq_true rfl) rfl ?_
  refine tk_aload_n (pc := 15) d_P_search_15 rfl ?_
  refine tk_iload (pc := 16) d_P_search_16 rfl ?_
  refine tk_put (pc := 18) d_P_search_18 f_P_33 p_P_4 rfl rfl rfl (Nat.le_of_ble_eq_true rfl) rfl ?_
  refine tk_aload_n (pc := 21) d_P_search_21 rfl ?_
  refine tk_iconst (pc := 22) (v := 0) d_P_search_22 (by decide) ?_
  refine tk_put (pc := 23) d_P_search_23 f_P_36 p_P_5 rfl rfl rfl (Nat.le_of_ble_eq_true rfl) rfl ?_
  refine tk_aload_n (pc := 26) d_P_search_26 rfl ?_
  refine tk_iconst (pc := 27) (v := 0) d_P_search_27 (by decide) ?_
  refine tk_put (pc := 28) d_P_search_28 f_P_39 p_P_6 rfl rfl rfl (Nat.le_of_ble_eq_true rfl) rfl ?_
  refine tk_aload_n (pc := 31) d_P_search_31 rfl ?_
  refine tk_iconst (pc := 32) (v := 1) d_P_search_32 (by decide) ?_
  refine tk_put (pc := 33) d_P_search_33 f_P_43 p_P_7 rfl rfl rfl (Nat.le_of_ble_eq_true rfl) rfl ?_
  refine tk_aload_n (pc := 36) d_P_search_36 rfl ?_
  refine tk_iconst (pc := 37) (v := 0) d_P_search_37 (by decide) ?_
  refine tk_callVr (pc := 38) d_P_search_38 l_P_46 k_P_tryNumbers rfl rfl rfl (m_try (G := gn) (R := R) (rm := rmf (nI gn, gt) sr gn) (sb := pbf (nI gn, gt) h ht sb gn) (al := al) (dn := 1) (g := (nI gn, gt)) (h := h) (c := c) (t := t) hg (fun k hk => by simp only [rmf]; rw [if_pos hk]; exact hR k hk) gn 0 (ldR f h ht, ch, be, -1, 0, 0) (by omega)) rfl (by omega) (Nat.le_of_ble_eq_true rfl) (Nat.le_of_ble_eq_true rfl) (Nat.le_of_ble_eq_true rfl) rfl rfl ?_
  exact tk_return (pc := 41) d_P_search_41 rfl (Nat.le_of_ble_eq_true rfl) (Nat.le_of_ble_eq_true rfl) ⟨rfl, rfl⟩
