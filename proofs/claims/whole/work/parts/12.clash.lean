/-! ===== Clashing ===== -/
theorem nI_or (a b : Nat) : nI a ||| nI b = nI (a ||| b) := by
  apply Int32.toBitVec_inj.1
  show BitVec.ofNat 32 a ||| BitVec.ofNat 32 b = BitVec.ofNat 32 (a ||| b)
  apply BitVec.eq_of_getLsbD_eq
  intro i hi
  simp [BitVec.getLsbD_ofNat, Nat.testBit_or, hi]
theorem nI_and (a b : Nat) : nI a &&& nI b = nI (a &&& b) := by
  apply Int32.toBitVec_inj.1
  show BitVec.ofNat 32 a &&& BitVec.ofNat 32 b = BitVec.ofNat 32 (a &&& b)
  apply BitVec.eq_of_getLsbD_eq
  intro i hi
  simp [BitVec.getLsbD_ofNat, Nat.testBit_and, hi]
theorem nI_sh1 : ∀ i, i < 31 → (1 : Int32) <<< (nI i &&& 31) = nI (2 ^ i) := by decide +kernel
/-- the broken rules as a number -/
def brn (f : Ar) (b : Nat) : Nat → Nat
  | 0 => 0
  | i + 1 => if f (b + i) ≤ 0 then brn f b i else brn f b i ||| 2 ^ i
theorem brk_n (f : Ar) (b : Nat) : ∀ i, i ≤ 11 → brk f b i = nI (brn f b i) := by
  intro i
  induction i with
  | zero => intro _; rfl
  | succ i ih =>
    intro hi
    simp only [brk, brn]
    split
    · exact ih (by omega)
    · rw [ih (by omega), nI_sh1 i (by omega), nI_or]
theorem brn_lt (f : Ar) (b : Nat) : ∀ i, brn f b i < 2 ^ i := by
  intro i
  induction i with
  | zero => simp [brn]
  | succ i ih =>
    simp only [brn]
    split
    · exact Nat.lt_trans ih (Nat.pow_lt_pow_right (by decide) (Nat.lt_succ_self i))
    · exact Nat.or_lt_two_pow (Nat.lt_trans ih (Nat.pow_lt_pow_right (by decide) (Nat.lt_succ_self i))) (Nat.pow_lt_pow_right (by decide) (Nat.lt_succ_self i))
/-- rows, seen, allHold -/
abbrev sW : Type := Ar × (Nat → Int64) × Int32
def orb (s : Nat → Int64) (n : Nat) : Nat → Int64 := vp_updL s (n / 64) (s (n / 64) ||| (1 : Int64) <<< ((nI (n % 64)).toInt64 &&& 63))
def wlf (G : Nat) (x : sW) : sW := (x.1, orb x.2.1 (brn x.1 (G * 12) 11), if x.2.2 = 0 then (if brn x.1 (G * 12) 11 = 0 then 1 else 0) else 1)
def wkL (rec : sW → sW) (sb : Ar) (k : Nat) : Nat → Nat → sW → sW
  | 0, _, x => x
  | r + 1, v, x => if x.2.2 = 0 then wkL rec sb k r (v + 1) (rec (if v = 0 then x.1 else adb x.1 sb k 12, x.2)) else x
def wkF (G : Nat) (R : Nat → Nat) (sb : Ar) : Nat → Nat → sW → sW
  | 0, _, x => wlf G x
  | m + 1, k, x => wkL (wkF G R sb m (k + 1)) sb k (R k + 1) 0 (stl x.1 k 12, x.2)
abbrev wC (g : sG) (h : sH) (p : sP) (G : Nat) (rm sb : Ar) (t : tk_W) (x : sW) : tk_W := wd g h p ((nI G, rm, sb, x.1), x.2.1, x.2.2) t
set_option maxHeartbeats 1000000 in
theorem m_walk {g : sG} {h : sH} {p : sP} {G : Nat} {R : Nat → Nat} {rm sb : Ar} {t : tk_W} (hG : G < 6) (hR : ∀ k, k < G → rm k = nI (R k) ∧ R k < 100) : ∀ (m k : Nat) (x : sW), k + m = G → tk_M y_C_walk w_C_walk (1 + m) 0 0 [.ref 23, .int (nI k)] (wC g h p G rm sb t x) (tk_det (.inl none) (wC g h p G rm sb t (wkF G R sb m k x))) := by
  intro m
  induction m with
  | zero =>
    intro k x hk
    obtain rfl : k = G := by omega
    have hlt := brn_lt x.1 (k * 12) 11
    refine tk_M.of (lv := [some (.ref 23), some (.int (nI k)), none]) (by decide) (Nat.le_of_ble_eq_true rfl) rfl ?_
    refine tk_iload_n (pc := 0) d_C_walk_0 rfl ?_
    refine tk_aload_n (pc := 1) d_C_walk_1 rfl ?_
    refine tk_get (pc := 2) d_C_walk_2 f_C_12 rfl rfl ?_
    refine tk_get (pc := 5) d_C_walk_5 f_C_38 rfl rfl ?_
    refine tk_icmp_lt (pc := 8) (tgt := 58) d_C_walk_8 (by decide) (fun hb => ?_) (fun hb => ?_)
    · exact absurd hb (nI_nlt (Nat.le_refl _) (by omega))
    refine tk_aload_n (pc := 11) d_C_walk_11 rfl ?_
    refine tk_get (pc := 12) d_C_walk_12 f_C_12 rfl rfl ?_
    refine tk_callVr (pc := 15) d_C_walk_15 l_C_42 k_S_broken rfl rfl rfl (m_brokenC (f := x.1) (n := k) hG) rfl (by omega) (Nat.le_of_ble_eq_true rfl) (Nat.le_of_ble_eq_true rfl) (Nat.le_of_ble_eq_true rfl) rfl rfl ?_
    rw [brk_n x.1 (k * 12) 11 (Nat.le_refl _)]
    generalize hnb : brn x.1 (k * 12) 11 = nb at hlt
    refine tk_istore2 (pc := 18) d_C_walk_18 rfl (by decide) ?_
    refine tk_aload_n (pc := 19) d_C_walk_19 rfl ?_
    refine tk_get (pc := 20) d_C_walk_20 f_C_18 rfl rfl ?_
    refine tk_iload_n (pc := 23) d_C_walk_23 rfl ?_
    refine tk_bipush (pc := 24) (v := 64) d_C_walk_24 (by decide) ?_
    refine tk_idiv (pc := 26) d_C_walk_26 (by decide) ?_
    rw [show nI nb / 64 = nI (nb / 64) from pk_div (by omega) (by decide) (by decide)]
    refine tk_dup2 (pc := 27) d_C_walk_27 rfl rfl ?_
    refine tk_lald (pc := 28) (nb/64) d_C_walk_28 rfl rfl (by omega) (by decide) ?_
    refine tk_lconst (pc := 29) (v := 1) d_C_walk_29 (by decide) ?_
    refine tk_iload_n (pc := 30) d_C_walk_30 rfl ?_
    refine tk_bipush (pc := 31) (v := 64) d_C_walk_31 (by decide) ?_
    refine tk_irem (pc := 33) d_C_walk_33 (by decide) ?_
    rw [show nI nb - nI nb / 64 * 64 = nI (nb % 64) from pk_rem (d := 64) (by omega) (by decide) (by decide)]
    refine tk_lshl (pc := 34) d_C_walk_34 ?_
    refine tk_lor (pc := 35) d_C_walk_35 ?_
    refine tk_last (pc := 36) (nb/64) d_C_walk_36 rfl rfl (by omega) (by decide) ?_
    refine tk_aload_n (pc := 37) d_C_walk_37 rfl ?_
    refine tk_aload_n (pc := 38) d_C_walk_38 rfl ?_
    refine tk_get (pc := 39) d_C_walk_39 f_C_26 rfl rfl ?_
    have hend : ∀ (v : Int32), v = (if x.2.2 = 0 then (if nb = 0 then 1 else 0) else 1) → vp_nar .boolean v = v → tk_T y_C_walk c_C_walk 3 none [] (1 + 0) 0 0 (fun _ => none) 0 0 (tk_det (.inl none) (wC g h p k rm sb t (wkF k R sb 0 k x))) 54 [some (.ref 23), some (.int (nI k)), some (.int (nI nb))] [.int v, .ref 23] (wC g h p k rm sb t (x.1, orb x.2.1 nb, x.2.2)) := by
      intro v hv hv2
      refine tk_put (pc := 54) d_C_walk_54 f_C_26 p_C_2 rfl (by rw [hv]; split <;> (try split) <;> rfl) (by rw [hv]; split <;> (try split) <;> rfl) (Nat.le_of_ble_eq_true rfl) rfl ?_
      exact tk_return (pc := 57) d_C_walk_57 rfl (Nat.le_of_ble_eq_true rfl) (Nat.le_of_ble_eq_true rfl) ⟨rfl, by show _ = wC g h p k rm sb t (x.1, orb x.2.1 (brn x.1 (k * 12) 11), if x.2.2 = 0 then (if brn x.1 (k * 12) 11 = 0 then 1 else 0) else 1); rw [hnb, ← hv]; rfl⟩
    refine tk_if_ne (pc := 42) (tgt := 49) d_C_walk_42 (by decide) (fun hc => ?_) (fun hc => ?_)
    · refine tk_iconst (pc := 49) (v := 1) d_C_walk_49 (by decide) ?_
      refine tk_goto (pc := 50) (tgt := 54) d_C_walk_50 (by decide) ?_
      exact hend 1 (by rw [if_neg hc]) rfl
    refine tk_iload_n (pc := 45) d_C_walk_45 rfl ?_
    refine tk_if_ne (pc := 46) (tgt := 53) d_C_walk_46 (by decide) (fun he => ?_) (fun he => ?_)
    · refine tk_iconst (pc := 53) (v := 0) d_C_walk_53 (by decide) ?_
      refine hend 0 ?_ rfl
      rw [if_pos hc, if_neg (fun q => he (by rw [q]; rfl))]
    · refine tk_iconst (pc := 49) (v := 1) d_C_walk_49 (by decide) ?_
      refine tk_goto (pc := 50) (tgt := 54) d_C_walk_50 (by decide) ?_
      refine hend 1 ?_ rfl
      rw [if_pos hc, if_pos ((nI_eq (b := 0) (by omega) (by omega)).mp he)]
  | succ m IH =>
    intro k x hk
    obtain ⟨hr1, hr2⟩ := hR k (by omega)
    refine tk_M.of (lv := [some (.ref 23), some (.int (nI k)), none]) (by decide) (Nat.le_of_ble_eq_true rfl) rfl ?_
    refine tk_iload_n (pc := 0) d_C_walk_0 rfl ?_
    refine tk_aload_n (pc := 1) d_C_walk_1 rfl ?_
    refine tk_get (pc := 2) d_C_walk_2 f_C_12 rfl rfl ?_
    refine tk_get (pc := 5) d_C_walk_5 f_C_38 rfl rfl ?_
    refine tk_icmp_lt (pc := 8) (tgt := 58) d_C_walk_8 (by decide) (fun hb => ?_) (fun hb => ?_)
    · refine tk_aload_n (pc := 58) d_C_walk_58 rfl ?_
      refine tk_get (pc := 59) d_C_walk_59 f_C_12 rfl rfl ?_
      refine tk_iload_n (pc := 62) d_C_walk_62 rfl ?_
      refine tk_callVr (pc := 63) d_C_walk_63 l_C_46 k_S_settle rfl rfl rfl (m_settleC (f := x.1) (k := k) (by omega)) rfl (by omega) (Nat.le_of_ble_eq_true rfl) (Nat.le_of_ble_eq_true rfl) (Nat.le_of_ble_eq_true rfl) rfl rfl ?_
      refine tk_iconst (pc := 66) (v := 0) d_C_walk_66 (by decide) ?_
      refine tk_istore2 (pc := 67) d_C_walk_67 rfl (by decide) ?_
      have key : ∀ (r v : Nat) (z : sW), v + r = R k + 1 → wkL (wkF G R sb m (k + 1)) sb k r v z = wkF G R sb (m + 1) k x → tk_T y_C_walk c_C_walk 3 none [] (1 + (m + 1)) 0 0 (fun _ => none) 0 0 (tk_det (.inl none) (wC g h p G rm sb t (wkF G R sb (m + 1) k x))) 68 [some (.ref 23), some (.int (nI k)), some (.int (nI v))] [] (wC g h p G rm sb t z) := by
        intro r
        induction r with
        | zero =>
          intro v z hv hz
          refine tk_iload_n (pc := 68) d_C_walk_68 rfl ?_
          refine tk_aload_n (pc := 69) d_C_walk_69 rfl ?_
          refine tk_get (pc := 70) d_C_walk_70 f_C_12 rfl rfl ?_
          refine tk_get (pc := 73) d_C_walk_73 f_C_49 rfl rfl ?_
          refine tk_iload_n (pc := 76) d_C_walk_76 rfl ?_
          refine tk_iald (pc := 77) k d_C_walk_77 rfl rfl (by omega) (by decide) ?_
          refine tk_icmp_gt (pc := 78) (tgt := 113) d_C_walk_78 (by decide) (fun hc => ?_) (fun hc => ?_)
          · exact tk_return (pc := 113) d_C_walk_113 rfl (Nat.le_of_ble_eq_true rfl) (Nat.le_of_ble_eq_true rfl) ⟨rfl, by rw [← hz]; rfl⟩
          · exact absurd (show rm k < nI v from by rw [hr1]; exact nI_lt (by omega) (by omega)) hc
        | succ r ih =>
          intro v z hv hz
          refine tk_iload_n (pc := 68) d_C_walk_68 rfl ?_
          refine tk_aload_n (pc := 69) d_C_walk_69 rfl ?_
          refine tk_get (pc := 70) d_C_walk_70 f_C_12 rfl rfl ?_
          refine tk_get (pc := 73) d_C_walk_73 f_C_49 rfl rfl ?_
          refine tk_iload_n (pc := 76) d_C_walk_76 rfl ?_
          refine tk_iald (pc := 77) k d_C_walk_77 rfl rfl (by omega) (by decide) ?_
          refine tk_icmp_gt (pc := 78) (tgt := 113) d_C_walk_78 (by decide) (fun hc => ?_) (fun hc => ?_)
          · exact absurd (show rm k < nI v from hc) (by rw [hr1]; exact nI_nlt (by omega) (by omega))
          refine tk_aload_n (pc := 81) d_C_walk_81 rfl ?_
          refine tk_get (pc := 82) d_C_walk_82 f_C_26 rfl rfl ?_
          refine tk_if_ne (pc := 85) (tgt := 113) d_C_walk_85 (by decide) (fun he => ?_) (fun he => ?_)
          · exact tk_return (pc := 113) d_C_walk_113 rfl (Nat.le_of_ble_eq_true rfl) (Nat.le_of_ble_eq_true rfl) ⟨rfl, by rw [← hz]; show _ = wC g h p G rm sb t (if z.2.2 = 0 then _ else _); rw [if_neg he]⟩
          · have hz' : wkL (wkF G R sb m (k + 1)) sb k r (v + 1) (wkF G R sb m (k + 1) (if v = 0 then z.1 else adb z.1 sb k 12, z.2)) = wkF G R sb (m + 1) k x := by
              rw [← hz]
              show _ = if z.2.2 = 0 then _ else _
              rw [if_pos he]
            have tail : tk_T y_C_walk c_C_walk 3 none [] (1 + (m + 1)) 0 0 (fun _ => none) 0 0 (tk_det (.inl none) (wC g h p G rm sb t (wkF G R sb (m + 1) k x))) 100 [some (.ref 23), some (.int (nI k)), some (.int (nI v))] [] (wC g h p G rm sb t (if v = 0 then z.1 else adb z.1 sb k 12, z.2)) := by
              refine tk_aload_n (pc := 100) d_C_walk_100 rfl ?_
              refine tk_iload_n (pc := 101) d_C_walk_101 rfl ?_
              refine tk_iconst (pc := 102) (v := 1) d_C_walk_102 (by decide) ?_
              refine tk_iadd (pc := 103) d_C_walk_103 ?_
              rw [show nI k + 1 = nI (k + 1) from nI_1 k]
              refine tk_callVr (pc := 104) d_C_walk_104 l_C_30 k_C_walk rfl rfl rfl (IH (k + 1) (if v = 0 then z.1 else adb z.1 sb k 12, z.2) (by omega)) rfl (by omega) (Nat.le_of_ble_eq_true rfl) (Nat.le_of_ble_eq_true rfl) (Nat.le_of_ble_eq_true rfl) rfl rfl ?_
              refine tk_jinc2 (pc := 107) d_C_walk_107 rfl (by decide) ?_
              refine tk_goto (pc := 110) (tgt := 68) d_C_walk_110 (by decide) ?_
              exact tk_eq rfl (by rw [inc1]) rfl rfl (ih (v + 1) _ (by omega) hz')
            refine tk_iload_n (pc := 88) d_C_walk_88 rfl ?_
            refine tk_if_le (pc := 89) (tgt := 100) d_C_walk_89 (by decide) (fun hf => ?_) (fun hf => ?_)
            · have hv0 : v = 0 := by
                rcases Nat.eq_zero_or_pos v with q | q
                · exact q
                · exact absurd hf (nI_nle q (by omega))
              refine tk_eq rfl rfl rfl ?_ tail
              rw [if_pos hv0]
            · have hv0 : ¬ v = 0 := fun q => hf (by rw [q]; decide)
              refine tk_aload_n (pc := 92) d_C_walk_92 rfl ?_
              refine tk_get (pc := 93) d_C_walk_93 f_C_12 rfl rfl ?_
              refine tk_iload_n (pc := 96) d_C_walk_96 rfl ?_
              refine tk_callVr (pc := 97) d_C_walk_97 l_C_53 k_S_addBundle rfl rfl rfl (m_addC (f := z.1) (k := k) (by omega)) rfl (by omega) (Nat.le_of_ble_eq_true rfl) (Nat.le_of_ble_eq_true rfl) (Nat.le_of_ble_eq_true rfl) rfl rfl ?_
              refine tk_eq rfl rfl rfl ?_ tail
              rw [if_neg hv0]
      exact key (R k + 1) 0 (stl x.1 k 12, x.2) (by omega) rfl
    · exact absurd (nI_lt (by omega) (by omega)) hb
/-- bit k of the seen sets -/
def sbt (s : Nat → Int64) (k : Nat) : Int64 := ((s (k / 64)).toUInt64 >>> ((nI (k % 64)).toInt64.toUInt64 &&& Int64.toUInt64 63)).toInt64 &&& 1
/-- some seen set of the m from k on has none of the rules rl -/
def sch (s : Nat → Int64) (rl : Int32) : Nat → Nat → Int32
  | 0, _ => 0
  | m + 1, k => if nI k &&& rl = 0 ∧ ¬ sbt s k = 0 then 1 else sch s rl m (k + 1)
theorem m_some {g : sG} {h : sH} {p : sP} {S : sS} {s : Nat → Int64} {ah : Int32} {t : tk_W} {rl : Int32} : tk_M y_C_someChargeHolds w_C_someChargeHolds 0 0 0 [.ref 23, .int rl] (wd g h p (S, s, ah) t) (tk_det (.inl (some (.int (sch s rl 2048 0)))) (wd g h p (S, s, ah) t)) := by
  refine tk_M.of (lv := [some (.ref 23), some (.int rl), none]) (by decide) (Nat.le_of_ble_eq_true rfl) rfl ?_
  refine tk_iconst (pc := 0) (v := 0) d_C_someChargeHolds_0 (by decide) ?_
  refine tk_istore2 (pc := 1) d_C_someChargeHolds_1 rfl (by decide) ?_
  have key : ∀ (m k : Nat), k + m = 2048 → sch s rl m k = sch s rl 2048 0 → tk_T y_C_someChargeHolds c_C_someChargeHolds 3 (some .boolean) [] 0 0 0 (fun _ => none) 0 0 (tk_det (.inl (some (.int (sch s rl 2048 0)))) (wd g h p (S, s, ah) t)) 2 [some (.ref 23), some (.int rl), some (.int (nI k))] [] (wd g h p (S, s, ah) t) := by
    intro m
    induction m with
    | zero =>
      intro k hk hz
      obtain rfl : k = 2048 := by omega
      refine tk_iload_n (pc := 2) d_C_someChargeHolds_2 rfl ?_
      refine tk_sipush (pc := 3) (v := 2048) d_C_someChargeHolds_3 (by decide) ?_
      refine tk_icmp_ge (pc := 6) (tgt := 44) d_C_someChargeHolds_6 (by decide) (fun hb => ?_) (fun hb => ?_)
      · refine tk_iconst (pc := 44) (v := 0) d_C_someChargeHolds_44 (by decide) ?_
        exact tk_ireturn (pc := 45) d_C_someChargeHolds_45 rfl rfl (Nat.le_of_ble_eq_true rfl) (Nat.le_of_ble_eq_true rfl) ⟨by rw [← hz]; rfl, rfl⟩
      · exact absurd (show nI 2048 ≤ nI 2048 from by decide) hb
    | succ m ih =>
      intro k hk hz
      refine tk_iload_n (pc := 2) d_C_someChargeHolds_2 rfl ?_
      refine tk_sipush (pc := 3) (v := 2048) d_C_someChargeHolds_3 (by decide) ?_
      refine tk_icmp_ge (pc := 6) (tgt := 44) d_C_someChargeHolds_6 (by decide) (fun hb => ?_) (fun hb => ?_)
      · exact absurd ((nI_leI (a := 2048) (b := k) (by omega) (by omega)).mp hb) (by omega)
      have go : ¬ (nI k &&& rl = 0 ∧ ¬ sbt s k = 0) → tk_T y_C_someChargeHolds c_C_someChargeHolds 3 (some .boolean) [] 0 0 0 (fun _ => none) 0 0 (tk_det (.inl (some (.int (sch s rl 2048 0)))) (wd g h p (S, s, ah) t)) 38 [some (.ref 23), some (.int rl), some (.int (nI k))] [] (wd g h p (S, s, ah) t) := by
        intro hno
        refine tk_jinc2 (pc := 38) d_C_someChargeHolds_38 rfl (by decide) ?_
        refine tk_goto (pc := 41) (tgt := 2) d_C_someChargeHolds_41 (by decide) ?_
        refine tk_eq rfl (by rw [inc1]) rfl rfl (ih (k + 1) (by omega) ?_)
        rw [← hz]
        show _ = if nI k &&& rl = 0 ∧ ¬ sbt s k = 0 then 1 else sch s rl m (k + 1)
        rw [if_neg hno]
      refine tk_iload_n (pc := 9) d_C_someChargeHolds_9 rfl ?_
      refine tk_iload_n (pc := 10) d_C_someChargeHolds_10 rfl ?_
      refine tk_iand (pc := 11) d_C_someChargeHolds_11 ?_
      refine tk_if_ne (pc := 12) (tgt := 38) d_C_someChargeHolds_12 (by decide) (fun hc => ?_) (fun hc => ?_)
      · exact go (fun q => hc q.1)
      refine tk_aload_n (pc := 15) d_C_someChargeHolds_15 rfl ?_
      refine tk_get (pc := 16) d_C_someChargeHolds_16 f_C_18 rfl rfl ?_
      refine tk_iload_n (pc := 19) d_C_someChargeHolds_19 rfl ?_
      refine tk_bipush (pc := 20) (v := 64) d_C_someChargeHolds_20 (by decide) ?_
      refine tk_idiv (pc := 22) d_C_someChargeHolds_22 (by decide) ?_
      rw [show nI k / 64 = nI (k / 64) from pk_div (by omega) (by decide) (by decide)]
      refine tk_lald (pc := 23) (k/64) d_C_someChargeHolds_23 rfl rfl (by omega) (by decide) ?_
      refine tk_iload_n (pc := 24) d_C_someChargeHolds_24 rfl ?_
      refine tk_bipush (pc := 25) (v := 64) d_C_someChargeHolds_25 (by decide) ?_
      refine tk_irem (pc := 27) d_C_someChargeHolds_27 (by decide) ?_
      rw [show nI k - nI k / 64 * 64 = nI (k % 64) from pk_rem (d := 64) (by omega) (by decide) (by decide)]
      refine tk_lushr (pc := 28) d_C_someChargeHolds_28 ?_
      refine tk_lconst (pc := 29) (v := 1) d_C_someChargeHolds_29 (by decide) ?_
      refine tk_land (pc := 30) d_C_someChargeHolds_30 ?_
      refine tk_lconst (pc := 31) (v := 0) d_C_someChargeHolds_31 (by decide) ?_
      refine tk_lcmp (pc := 32) d_C_someChargeHolds_32 ?_
      refine tk_if_eq (pc := 33) (tgt := 38) d_C_someChargeHolds_33 (by decide) (fun he => ?_) (fun he => ?_)
      · exact go (fun q => q.2 ((lg_cmp_eq _ _).mp he))
      · refine tk_iconst (pc := 36) (v := 1) d_C_someChargeHolds_36 (by decide) ?_
        exact tk_ireturn (pc := 37) d_C_someChargeHolds_37 rfl rfl (Nat.le_of_ble_eq_true rfl) (Nat.le_of_ble_eq_true rfl) ⟨by rw [← hz]; show _ = Sum.inl (some (Value.int (if nI k &&& rl = 0 ∧ ¬ sbt s k = 0 then 1 else sch s rl m (k + 1)))); rw [if_pos ⟨hc, fun q => he ((lg_cmp_eq _ _).mpr q)⟩], rfl⟩
  exact key 2048 0 (by omega) rfl
def zfl (s : Nat → Int64) (i : Nat) : Nat → Int64 := fun j => if j < i then 0 else s j
theorem zfl_0 (s : Nat → Int64) : zfl s 0 = s := by
  funext j; simp only [zfl]; rw [if_neg (by omega)]
theorem zfl_s (s : Nat → Int64) (i : Nat) : vp_updL (zfl s i) i 0 = zfl s (i + 1) := by
  funext j
  simp only [vp_updL, zfl]
  by_cases h1 : j = i
  · subst h1; rw [if_pos rfl, if_pos (by omega)]
  · rw [if_neg h1]
    by_cases h2 : j < i
    · rw [if_pos h2, if_pos (by omega)]
    · rw [if_neg h2, if_neg (by omega)]
def lft (s : Nat → Int64) : Nat → Int32
  | 0 => 2047
  | i + 1 => if sch s (lft s i &&& ((1 : Int32) <<< (nI i &&& 31) ^^^ -1)) 2048 0 = 0 then lft s i &&& ((1 : Int32) <<< (nI i &&& 31) ^^^ -1) else lft s i
/-- what find leaves behind -/
def fndW (gn : Nat) (gt : Ar × Ar × Ar × Ar × Ar × Ar) (h : sH) (R : Nat → Nat) (ht : Nat) (sb f : Ar) (s : Nat → Int64) : sW := wkF gn R (pbf (nI gn, gt) h ht sb gn) gn 0 (ldR f h ht, zfl s 32, 0)
set_option maxHeartbeats 1000000 in
theorem m_find {gn : Nat} {gt : Ar × Ar × Ar × Ar × Ar × Ar} {h : sH} {p : sP} {t : tk_W} {sn : Int32} {sr sb f : Ar} {s : Nat → Int64} {ah : Int32} {R : Nat → Nat} {ht : Nat} (hg : gn < 6) (hh : ht < 4) (hR : ∀ k, k < gn → rmin (nI gn, gt) k = nI (R k) ∧ R k < 100) :
    tk_M y_C_find w_C_find 8 0 0 [.ref 23, .ref 1, .ref 8, .int (nI ht)] (wd (nI gn, gt) h p ((sn, sr, sb, f), s, ah) t) (tk_det (.inl (some (.int (if (fndW gn gt h R ht sb f s).2.2 = 0 then lft (fndW gn gt h R ht sb f s).2.1 11 else 0)))) (wC (nI gn, gt) h p gn (rmf (nI gn, gt) sr gn) (pbf (nI gn, gt) h ht sb gn) t (fndW gn gt h R ht sb f s))) := by
  refine tk_M.of (lv := [some (.ref 23), some (.ref 1), some (.ref 8), some (.int (nI ht)), none, none, none]) (by decide) (Nat.le_of_ble_eq_true rfl) rfl ?_
  refine tk_aload_n (pc := 0) d_C_find_0 rfl ?_
  refine tk_get (pc := 1) d_C_find_1 f_C_12 rfl rfl ?_
  refine tk_aload_n (pc := 4) d_C_find_4 rfl ?_
  refine tk_aload_n (pc := 5) d_C_find_5 rfl ?_
  refine tk_iload_n (pc := 6) d_C_find_6 rfl ?_
  refine tk_callVr (pc := 7) d_C_find_7 l_C_22 k_S_load rfl rfl rfl (m_loadC (gn := gn) (gt := gt) (f := f) (ht := ht) hg hh) rfl (by omega) (Nat.le_of_ble_eq_true rfl) (Nat.le_of_ble_eq_true rfl) (Nat.le_of_ble_eq_true rfl) rfl rfl ?_
  refine tk_iconst (pc := 10) (v := 0) d_C_find_10 (by decide) ?_
  refine tk_istore4 (pc := 11) d_C_find_11 rfl (by decide) ?_
  generalize hX : fndW gn gt h R ht sb f s = X
  have tail : tk_T y_C_find c_C_find 7 (some .int) [] 8 0 0 (fun _ => none) 0 0 (tk_det (.inl (some (.int (if X.2.2 = 0 then lft X.2.1 11 else 0)))) (wC (nI gn, gt) h p gn (rmf (nI gn, gt) sr gn) (pbf (nI gn, gt) h ht sb gn) t X)) 47 [some (.ref 23), some (.ref 1), some (.ref 8), some (.int (nI ht)), some (.int (nI 32)), none, none] [] (wC (nI gn, gt) h p gn (rmf (nI gn, gt) sr gn) (pbf (nI gn, gt) h ht sb gn) t X) := by
    refine tk_aload_n (pc := 47) d_C_find_47 rfl ?_
    refine tk_get (pc := 48) d_C_find_48 f_C_26 rfl rfl ?_
    refine tk_if_eq (pc := 51) (tgt := 56) d_C_find_51 (by decide) (fun hb => ?_) (fun hb => ?_)
    · refine tk_sipush (pc := 56) (v := 2047) d_C_find_56 (by decide) ?_
      refine tk_istore4 (pc := 59) d_C_find_59 rfl (by decide) ?_
      refine tk_iconst (pc := 61) (v := 0) d_C_find_61 (by decide) ?_
      refine tk_istore5 (pc := 62) d_C_find_62 rfl (by decide) ?_
      have lp : ∀ (m i : Nat) (o6 : Option Value), i + m = 11 → tk_T y_C_find c_C_find 7 (some .int) [] 8 0 0 (fun _ => none) 0 0 (tk_det (.inl (some (.int (if X.2.2 = 0 then lft X.2.1 11 else 0)))) (wC (nI gn, gt) h p gn (rmf (nI gn, gt) sr gn) (pbf (nI gn, gt) h ht sb gn) t X)) 64 [some (.ref 23), some (.ref 1), some (.ref 8), some (.int (nI ht)), some (.int (lft X.2.1 i)), some (.int (nI i)), o6] [] (wC (nI gn, gt) h p gn (rmf (nI gn, gt) sr gn) (pbf (nI gn, gt) h ht sb gn) t X) := by
        intro m
        induction m with
        | zero =>
          intro i o6 hi
          obtain rfl : i = 11 := by omega
          refine tk_iload (pc := 64) d_C_find_64 rfl ?_
          refine tk_bipush (pc := 66) (v := 11) d_C_find_66 (by decide) ?_
          refine tk_icmp_ge (pc := 68) (tgt := 101) d_C_find_68 (by decide) (fun hc => ?_) (fun hc => ?_)
          · refine tk_iload (pc := 101) d_C_find_101 rfl ?_
            exact tk_ireturn (pc := 103) d_C_find_103 rfl rfl (Nat.le_of_ble_eq_true rfl) (Nat.le_of_ble_eq_true rfl) ⟨by rw [if_pos hb], rfl⟩
          · exact absurd (show nI 11 ≤ nI 11 from by decide) hc
        | succ m ih =>
          intro i o6 hi
          refine tk_iload (pc := 64) d_C_find_64 rfl ?_
          refine tk_bipush (pc := 66) (v := 11) d_C_find_66 (by decide) ?_
          refine tk_icmp_ge (pc := 68) (tgt := 101) d_C_find_68 (by decide) (fun hc => ?_) (fun hc => ?_)
          · exact absurd ((nI_leI (a := 11) (b := i) (by omega) (by omega)).mp hc) (by omega)
          refine tk_iload (pc := 71) d_C_find_71 rfl ?_
          refine tk_iconst (pc := 73) (v := 1) d_C_find_73 (by decide) ?_
          refine tk_iload (pc := 74) d_C_find_74 rfl ?_
          refine tk_ishl (pc := 76) d_C_find_76 ?_
          refine tk_iconst (pc := 77) (v := -1) d_C_find_77 (by decide) ?_
          refine tk_ixor (pc := 78) d_C_find_78 ?_
          refine tk_iand (pc := 79) d_C_find_79 ?_
          refine tk_istore6 (pc := 80) d_C_find_80 rfl (by decide) ?_
          refine tk_aload_n (pc := 82) d_C_find_82 rfl ?_
          refine tk_iload (pc := 83) d_C_find_83 rfl ?_
          refine tk_callVr (pc := 85) d_C_find_85 l_C_34 k_C_someChargeHolds rfl rfl rfl (m_some (rl := lft X.2.1 i &&& ((1 : Int32) <<< (nI i &&& 31) ^^^ -1))) rfl (by omega) (Nat.le_of_ble_eq_true rfl) (Nat.le_of_ble_eq_true rfl) (Nat.le_of_ble_eq_true rfl) rfl rfl ?_
          refine tk_if_ne (pc := 88) (tgt := 95) d_C_find_88 (by decide) (fun he => ?_) (fun he => ?_)
          · refine tk_jinc5 (pc := 95) d_C_find_95 rfl (by decide) ?_
            refine tk_goto (pc := 98) (tgt := 64) d_C_find_98 (by decide) ?_
            refine tk_eq rfl ?_ rfl rfl (ih (i + 1) (some (.int (lft X.2.1 i &&& ((1 : Int32) <<< (nI i &&& 31) ^^^ -1)))) (by omega))
            rw [inc1]
            simp only [lft]
            rw [if_neg he]
          · refine tk_iload (pc := 91) d_C_find_91 rfl ?_
            refine tk_istore4 (pc := 93) d_C_find_93 rfl (by decide) ?_
            refine tk_jinc5 (pc := 95) d_C_find_95 rfl (by decide) ?_
            refine tk_goto (pc := 98) (tgt := 64) d_C_find_98 (by decide) ?_
            refine tk_eq rfl ?_ rfl rfl (ih (i + 1) (some (.int (lft X.2.1 i &&& ((1 : Int32) <<< (nI i &&& 31) ^^^ -1)))) (by omega))
            rw [inc1]
            simp only [lft]
            rw [if_pos he]
      exact lp 11 0 none rfl
    · refine tk_iconst (pc := 54) (v := 0) d_C_find_54 (by decide) ?_
      exact tk_ireturn (pc := 55) d_C_find_55 rfl rfl (Nat.le_of_ble_eq_true rfl) (Nat.le_of_ble_eq_true rfl) ⟨by rw [if_neg hb], rfl⟩
  have lz : ∀ (m i : Nat), i + m = 32 → tk_T y_C_find c_C_find 7 (some .int) [] 8 0 0 (fun _ => none) 0 0 (tk_det (.inl (some (.int (if X.2.2 = 0 then lft X.2.1 11 else 0)))) (wC (nI gn, gt) h p gn (rmf (nI gn, gt) sr gn) (pbf (nI gn, gt) h ht sb gn) t X)) 13 [some (.ref 23), some (.ref 1), some (.ref 8), some (.int (nI ht)), some (.int (nI i)), none, none] [] (wd (nI gn, gt) h p ((nI gn, rmf (nI gn, gt) sr gn, pbf (nI gn, gt) h ht sb gn, ldR f h ht), zfl s i, ah) t) := by
    intro m
    induction m with
    | zero =>
      intro i hi
      obtain rfl : i = 32 := by omega
      refine tk_iload (pc := 13) d_C_find_13 rfl ?_
      refine tk_aload_n (pc := 15) d_C_find_15 rfl ?_
      refine tk_get (pc := 16) d_C_find_16 f_C_18 rfl rfl ?_
      refine tk_alen (pc := 19) d_C_find_19 rfl rfl rfl ?_
      refine tk_icmp_ge (pc := 20) (tgt := 37) d_C_find_20 (by decide) (fun hc => ?_) (fun hc => ?_)
      · refine tk_aload_n (pc := 37) d_C_find_37 rfl ?_
        refine tk_iconst (pc := 38) (v := 0) d_C_find_38 (by decide) ?_
        refine tk_put (pc := 39) d_C_find_39 f_C_26 p_C_2 rfl rfl rfl (Nat.le_of_ble_eq_true rfl) rfl ?_
        refine tk_aload_n (pc := 42) d_C_find_42 rfl ?_
        refine tk_iconst (pc := 43) (v := 0) d_C_find_43 (by decide) ?_
        refine tk_callVr (pc := 44) d_C_find_44 l_C_30 k_C_walk rfl rfl rfl (m_walk (G := gn) (R := R) (rm := rmf (nI gn, gt) sr gn) (sb := pbf (nI gn, gt) h ht sb gn) (g := (nI gn, gt)) (h := h) (p := p) (t := t) hg (fun k hk => by simp only [rmf]; rw [if_pos hk]; exact hR k hk) gn 0 (ldR f h ht, zfl s 32, 0) (by omega)) rfl (by omega) (Nat.le_of_ble_eq_true rfl) (Nat.le_of_ble_eq_true rfl) (Nat.le_of_ble_eq_true rfl) rfl rfl ?_
        refine tk_ww (wC (nI gn, gt) h p gn (rmf (nI gn, gt) sr gn) (pbf (nI gn, gt) h ht sb gn) t X) (by rw [← hX]; rfl) ?_
        exact tail
      · exact absurd (show nI 32 ≤ nI 32 from by decide) hc
    | succ m ih =>
      intro i hi
      refine tk_iload (pc := 13) d_C_find_13 rfl ?_
      refine tk_aload_n (pc := 15) d_C_find_15 rfl ?_
      refine tk_get (pc := 16) d_C_find_16 f_C_18 rfl rfl ?_
      refine tk_alen (pc := 19) d_C_find_19 rfl rfl rfl ?_
      refine tk_icmp_ge (pc := 20) (tgt := 37) d_C_find_20 (by decide) (fun hc => ?_) (fun hc => ?_)
      · exact absurd ((nI_leI (a := 32) (b := i) (by omega) (by omega)).mp hc) (by omega)
      refine tk_aload_n (pc := 23) d_C_find_23 rfl ?_
      refine tk_get (pc := 24) d_C_find_24 f_C_18 rfl rfl ?_
      refine tk_iload (pc := 27) d_C_find_27 rfl ?_
      refine tk_lconst (pc := 29) (v := 0) d_C_find_29 (by decide) ?_
      refine tk_last (pc := 30) i d_C_find_30 rfl rfl (by omega) (by decide) ?_
      refine tk_jinc4 (pc := 31) d_C_find_31 rfl (by decide) ?_
      refine tk_goto (pc := 34) (tgt := 13) d_C_find_34 (by decide) ?_
      refine tk_eq rfl ?_ rfl ?_ (ih (i + 1) (by omega))
      · rw [inc1]
      · rw [← zfl_s]; rfl
  exact tk_eq rfl rfl rfl (by rw [zfl_0]) (lz 32 0 rfl)
