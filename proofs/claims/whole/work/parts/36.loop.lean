/-! ===== the law's loop, and its beginning ===== -/
section LAWL
variable {nm : String} {hh : List (Nat × Nat × Nat × Nat)} {ro : Nat → Option (Nat × (Nat → Int32))} {Q : tk_R → tk_W → Prop} {L : Nat} {xs : Nat → Int32}
theorem lw_ge {L i : Nat} (hL : L ≤ 2560) (hi : i ≤ 2560) : nI L - 5 < nI i ↔ L < i + 5 := by
  rw [Int32.lt_iff_toInt_lt, show nI L - 5 = nI L - nI 5 from rfl, pk_sub_toInt (by omega) (by omega), nI_toInt (by omega)]
  omega
set_option maxHeartbeats 2000000 in
theorem lw_loop (hro : ro 1000000 = some (L, xs)) (hL : L ≤ 2560) (hQ : ∀ w, Q (.inl (some (.int 1))) w) : ∀ (m i cells slots : Nat) (o5 o6 : Option Value) (th : Int32) (o : Nat → Int64) (w : tk_W), i ≤ L → L < i + 5 * (m + 1) → cells + m ≤ 1000 → slots + 6 * m ≤ 10000 → INV th o w → LwT nm hh ro Q cells slots 23 i o5 o6 w := by
  intro m
  induction m with
  | zero =>
    intro i cells slots o5 o6 th o w hiL hm hc hs hI
    have hl := inv_len hI
    refine tk_iload (pc := 23) d_L_law_23 rfl ?_
    refine tk_aload_n (pc := 25) d_L_law_25 rfl ?_
    refine tk_slen (pc := 26) d_L_law_26 hro (by rw [hl]; decide) ?_
    refine tk_iconst (pc := 27) (v := 5) d_L_law_27 (by decide) ?_
    refine tk_isub (pc := 28) d_L_law_28 ?_
    refine tk_icmp_gt (pc := 29) (tgt := 1080) d_L_law_29 (by decide) (fun hb => ?_) (fun hb => ?_)
    · refine tk_iconst (pc := 1080) (v := 1) d_L_law_1080 (by decide) ?_
      exact tk_ireturn (pc := 1081) d_L_law_1081 rfl rfl (by omega) (by omega) (hQ _)
    · exact absurd ((lw_ge hL (by omega)).mpr (by omega)) hb
  | succ m ih =>
    intro i cells slots o5 o6 th o w hiL hm hc hs hI
    have hl := inv_len hI
    refine tk_iload (pc := 23) d_L_law_23 rfl ?_
    refine tk_aload_n (pc := 25) d_L_law_25 rfl ?_
    refine tk_slen (pc := 26) d_L_law_26 hro (by rw [hl]; decide) ?_
    refine tk_iconst (pc := 27) (v := 5) d_L_law_27 (by decide) ?_
    refine tk_isub (pc := 28) d_L_law_28 ?_
    refine tk_icmp_gt (pc := 29) (tgt := 1080) d_L_law_29 (by decide) (fun hb => ?_) (fun hb => ?_)
    · refine tk_iconst (pc := 1080) (v := 1) d_L_law_1080 (by decide) ?_
      exact tk_ireturn (pc := 1081) d_L_law_1081 rfl rfl (by omega) (by omega) (hQ _)
    have hi5 : i + 5 ≤ L := by
      rcases Nat.lt_or_ge L (i + 5) with q | q
      · exact absurd ((lw_ge hL (by omega)).mpr q) hb
      · exact q
    have back : ∀ (c s : Nat), c ≤ cells + 1 → s ≤ slots + 6 → ∀ (w' : tk_W) (th' : Int32) (o' : Nat → Int64) (p5 p6 : Option Value), INV th' o' w' → LwT nm hh ro Q c s 1074 i p5 p6 w' := by
      intro c s h1 h2 w' th' o' p5 p6 hI'
      refine tk_jinc4 (pc := 1074) d_L_law_1074 rfl (by decide) ?_
      refine tk_goto (pc := 1077) (tgt := 23) d_L_law_1077 (by decide) ?_
      rw [show nI i + Int32.ofInt 5 = nI (i + 5) from nI_add i 5]
      exact ih (i + 5) c s p5 p6 th' o' w' (by omega) (by omega) (by omega) (by omega) hI'
    have K := back (cells + 1) (slots + 6) (Nat.le_refl _) (Nat.le_refl _)
    refine tk_aload_n (pc := 32) d_L_law_32 rfl ?_
    refine tk_iload (pc := 33) d_L_law_33 rfl ?_
    refine tk_sld (pc := 35) i d_L_law_35 hro (by rw [hl]; decide) rfl (by omega) (by omega) ?_
    refine tk_bipush (pc := 36) (v := 15) d_L_law_36 (by decide) ?_
    refine tk_iand (pc := 38) d_L_law_38 ?_
    obtain ⟨j, hj, e⟩ := pk_andE (xs i) (m := 15) 4 rfl
    rw [e]
    have hj2 : j = 0 ∨ j = 1 ∨ j = 2 ∨ j = 3 ∨ j = 4 ∨ j = 5 ∨ j = 6 ∨ j = 7 ∨ j = 8 ∨ j = 9 ∨ j = 10 ∨ j = 11 ∨ j = 12 ∨ j = 13 ∨ j = 14 ∨ j = 15 := by omega
    have hkc : cells + 1 ≤ 1000 := by omega
    have hks : slots + 6 ≤ 10000 := by omega
    rcases hj2 with rfl | rfl | rfl | rfl | rfl | rfl | rfl | rfl | rfl | rfl | rfl | rfl | rfl | rfl | rfl | rfl
    · exact tk_tabIn (pc := 39) (tgt := 112) d_L_law_39 (by decide) (by decide) rfl (by decide) (lc_good hro hL hi5 hI hkc hks K)
    · exact tk_tabIn (pc := 39) (tgt := 192) d_L_law_39 (by decide) (by decide) rfl (by decide) (lc_element hro hL hi5 hI hkc hks K)
    · exact tk_tabIn (pc := 39) (tgt := 264) d_L_law_39 (by decide) (by decide) rfl (by decide) (lc_limit hro hL hi5 hI hkc hks K)
    · exact tk_tabIn (pc := 39) (tgt := 312) d_L_law_39 (by decide) (by decide) rfl (by decide) (lc_arrive hro hL hi5 hI hkc hks K)
    · exact tk_tabIn (pc := 39) (tgt := 380) d_L_law_39 (by decide) (by decide) rfl (by decide) (lc_heat hro hL hi5 hI hkc hks K)
    · exact tk_tabIn (pc := 39) (tgt := 448) d_L_law_39 (by decide) (by decide) rfl (by decide) (lc_span hro hL hi5 hI hkc hks K)
    · exact tk_tabIn (pc := 39) (tgt := 520) d_L_law_39 (by decide) (by decide) rfl (by decide) (lc_most hro hL hi5 hI hkc hks K)
    · exact tk_tabIn (pc := 39) (tgt := 568) d_L_law_39 (by decide) (by decide) rfl (by decide) (lc_plan hro hL hi5 hI hkc hks K)
    · exact tk_tabIn (pc := 39) (tgt := 636) d_L_law_39 (by decide) (by decide) rfl (by decide) (lc_planned hro hL hi5 hI hkc hks K)
    · exact tk_tabIn (pc := 39) (tgt := 692) d_L_law_39 (by decide) (by decide) rfl (by decide) (lc_amount hro hL hi5 hI hkc hks K)
    · exact tk_tabIn (pc := 39) (tgt := 760) d_L_law_39 (by decide) (by decide) rfl (by decide) (lc_worst hro hL hi5 hI hkc hks K)
    · exact tk_tabIn (pc := 39) (tgt := 851) d_L_law_39 (by decide) (by decide) rfl (by decide) (lc_bound hro hL hi5 hI hkc hks K)
    · exact tk_tabIn (pc := 39) (tgt := 906) d_L_law_39 (by decide) (by decide) rfl (by decide) (lc_clash hro hL hi5 hI hkc hks K)
    · exact tk_tabIn (pc := 39) (tgt := 962) d_L_law_39 (by decide) (by decide) rfl (by decide) (lc_take hro hL hi5 hI hkc hks K)
    · exact tk_tabIn (pc := 39) (tgt := 1018) d_L_law_39 (by decide) (by decide) rfl (by decide) (lc_stock hro hL hi5 hI hkc hks K)
    · exact tk_tabOut (pc := 39) (tgt := 1074) d_L_law_39 (by decide) (by decide) (back cells slots (by omega) (by omega) w th o _ _ hI)
theorem inv_0 : INV 0 (fun _ => 0) (wd (nI 0, z0, z0, z0, z0, z0, z0) (nI 0, z0, z0, z0, z0, z0, z0, z0) ((0, z0, z0, z0), z0, z0, 0, 0, 0, 0, 0) ((0, z0, z0, z0), fun _ => 0, 0) (md 0 0 z0 z0 z0 z0 z0 z0 0 z0 z0 z0 z0 z0 pc0 z0 0 0 0 z0 z0 (fun _ => 0))) := by
  have e : nN (fun _ => 0) = z0 := rfl
  refine ⟨(0, fun _ => 0, fun _ => 0, fun _ => 0, fun _ => 0, fun _ => 0, fun _ => 0, 0, fun _ => 0, fun _ => 0, fun _ => 0, fun _ => 0, fun _ => 0), z0, z0, (0, z0, z0, z0), z0, z0, 0, 0, 0, 0, 0, (0, z0, z0, z0), fun _ => 0, 0, pc0, z0, z0, z0, rfl, ?_, fun _ _ _ _ _ => rfl, fun _ _ _ _ _ => rfl, fun _ _ => rfl, Or.inl rfl, fun j hj => Or.inl ⟨?_, fun q => absurd q (Nat.not_lt_zero j)⟩⟩
  · exact ⟨Nat.zero_le _, fun _ => Nat.zero_le _, fun j q => absurd q (Nat.not_lt_zero j), fun _ => Nat.zero_le _, fun _ => Nat.zero_le _, fun _ => Nat.zero_le _, fun _ => Nat.zero_le _, fun _ => Nat.zero_le _, Nat.zero_le _, fun _ => Nat.zero_le _, fun _ => Nat.zero_le _, fun _ => Nat.zero_le _, fun _ => Nat.zero_le _, fun _ => Nat.zero_le _, fun _ _ => rfl, fun j q => absurd q (Nat.not_lt_zero j)⟩
  · have : j = 0 ∨ j = 1 ∨ j = 2 ∨ j = 3 := by omega
    rcases this with rfl | rfl | rfl | rfl <;> rfl
set_option maxHeartbeats 2000000 in
theorem lw_T (hro : ro 1000000 = some (L, xs)) (hL : L ≤ 2560) (hQ : ∀ w, Q (.inl (some (.int 1))) w) : tk_T (yLw nm) code 8 (some .boolean) hh 12 1000 10000 ro 0 0 Q 0 [some (.ref 1000000), none, none, none, none, none, none, none] [] [] := by
  refine tk_new (pc := 0) d_L_law_0 nw_L_8 rfl rfl rfl rfl (Nat.le_of_ble_eq_true rfl) (Nat.le_of_ble_eq_true rfl) ?_
  refine tk_dup (pc := 3) d_L_law_3 rfl ?_
  refine tk_callIr (pc := 4) d_L_law_4 l_L_69 k_CP_init (m_CP_init) rfl rfl (by omega) (Nat.le_of_ble_eq_true rfl) (Nat.le_of_ble_eq_true rfl) (Nat.le_of_ble_eq_true rfl) rfl rfl ?_
  refine tk_astore1 (pc := 7) d_L_law_7 rfl (by decide) ?_
  refine tk_new (pc := 8) d_L_law_8 nw_L_70 rfl rfl rfl rfl (Nat.le_of_ble_eq_true rfl) (Nat.le_of_ble_eq_true rfl) ?_
  refine tk_dup (pc := 11) d_L_law_11 rfl ?_
  refine tk_callIr (pc := 12) d_L_law_12 l_L_72 k_M_init (m_M_init) rfl rfl (by omega) (Nat.le_of_ble_eq_true rfl) (Nat.le_of_ble_eq_true rfl) (Nat.le_of_ble_eq_true rfl) rfl rfl ?_
  refine tk_astore2 (pc := 15) d_L_law_15 rfl (by decide) ?_
  refine tk_iconst (pc := 16) (v := 1) d_L_law_16 (by decide) ?_
  refine tk_newa (pc := 17) (t := 1) (N := 1) (a0 := (1, .inr (.inl (fun _ => 0)))) d_L_law_17 a_long rfl rfl (fun _ => rfl) rfl (by decide) rfl rfl rfl (Nat.le_of_ble_eq_true rfl) (Nat.le_of_ble_eq_true rfl) ?_
  refine tk_astore3 (pc := 19) d_L_law_19 rfl (by decide) ?_
  refine tk_iconst (pc := 20) (v := 0) d_L_law_20 (by decide) ?_
  refine tk_istore4 (pc := 21) d_L_law_21 rfl (by decide) ?_
  refine tk_ww (wd (nI 0, z0, z0, z0, z0, z0, z0) (nI 0, z0, z0, z0, z0, z0, z0, z0) ((0, z0, z0, z0), z0, z0, 0, 0, 0, 0, 0) ((0, z0, z0, z0), fun _ => 0, 0) (md 0 0 z0 z0 z0 z0 z0 z0 0 z0 z0 z0 z0 z0 pc0 z0 0 0 0 z0 z0 (fun _ => 0))) rfl ?_
  exact lw_loop hro hL hQ 512 0 _ _ none none 0 (fun _ => 0) _ (by omega) (by omega) (by decide) (by decide) inv_0
end LAWL
