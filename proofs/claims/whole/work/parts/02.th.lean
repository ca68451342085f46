/-! ===== contracts that name their end ===== -/
def tk_det (r0 : tk_R) (w1 : tk_W) : tk_R → tk_W → Prop := fun r x => r = r0 ∧ x = w1
theorem tk_M.mono {y : MethodName} {cw : Cond} {d kc ks : Nat} {as : List Value} {w : tk_W} {Q Q' : tk_R → tk_W → Prop} (h : ∀ r x, Q' r x → Q r x) (k : tk_M y cw d kc ks as w Q') : tk_M y cw d kc ks as w Q := by
  intro l hl D dA ad p e ha hc hk s m args below hf happ hP hK
  obtain ⟨n, o, h1, h2, h3, h4, h5, r, ad', w', h6, h7⟩ := k l hl D dA ad p e ha hc hk s m args below hf happ hP hK
  exact ⟨n, o, h1, h2, h3, h4, h5, r, ad', w', h _ _ h6, h7⟩
section TKD
variable {y : MethodName} {cc : ByteArray} {nL : Nat} {rt : Option FieldType} {hh : List (Nat × Nat × Nat × Nat)} {d kc ks : Nat} {ro : Nat → Option (Nat × (Nat → Int32))} {cells slots : Nat} {Q : tk_R → tk_W → Prop} {pc : Nat} {lv : List (Option Value)} {rest : List Value} {w w1 : tk_W}
variable {y' : MethodName} {cw : Cond} {nL' n' d' kc' ks' idx : Nat} {as st : List Value} {Q' : tk_R → tk_W → Prop}
/-- a call that returns v, with the world w1 -/
theorem tk_callSr {v : Option Value} (hd : decode cc pc = .ok (.invokestatic idx, 3)) (hl : tk_ML y.cls idx y') (hC : tk_CS y' cw nL' n') (hM : tk_M y' cw d' kc' ks' as w (tk_det (.inl v) w1)) (hw : w1.length = w.length) (hdd : d' < d) (hkc : cells + kc' ≤ kc) (hks : slots + ks' ≤ ks) (hrest : (rest.map fun v => v.category).sum ≤ 8) (hn : as.length = n') (hst : as.reverse ++ rest = st)
    (kr : tk_T y cc nL rt hh d kc ks ro (cells + kc') (slots + ks') Q (pc + 3) lv (v.toList ++ rest) w1) : tk_T y cc nL rt hh d kc ks ro cells slots Q pc lv st w := by
  refine tk_callS hd hl hC hM hdd hkc hks hrest hn hst ?_ ?_ ?_
  · rintro r x ⟨-, rfl⟩
    exact tk_kps_same hw
  · rintro r x ⟨h1, rfl⟩
    cases h1
    exact kr
  · rintro C x ⟨h1, -⟩
    cases h1
/-- a call that throws, where no handler stands -/
theorem tk_callSx {C : String} (hd : decode cc pc = .ok (.invokestatic idx, 3)) (hl : tk_ML y.cls idx y') (hC : tk_CS y' cw nL' n') (hM : tk_M y' cw d' kc' ks' as w (tk_det (.inr C) w1)) (hw : w1.length = w.length) (hdd : d' < d) (hkc : cells + kc' ≤ kc) (hks : slots + ks' ≤ ks) (hrest : (rest.map fun v => v.category).sum ≤ 8) (hn : as.length = n') (hst : as.reverse ++ rest = st)
    (hout : ∀ x ∈ hh, (decide (x.1 ≤ pc) && decide (pc < x.2.1)) = false) (q : Q (.inr C) w1) : tk_T y cc nL rt hh d kc ks ro cells slots Q pc lv st w := by
  refine tk_callS hd hl hC hM hdd hkc hks hrest hn hst ?_ ?_ ?_
  · rintro r x ⟨-, rfl⟩
    exact tk_kps_same hw
  · rintro r x ⟨h1, -⟩
    cases h1
  · rintro C x ⟨h1, rfl⟩
    cases h1
    exact tk_X.out hout hkc hks q
theorem tk_callVr {b ci : Nat} {fs : List Value} {q : vw_C} {v : Option Value} (hd : decode cc pc = .ok (.invokevirtual idx, 3)) (hl : tk_ML y.cls idx y') (hC : tk_CV y' cw nL' n') (hb : w[b]? = some (.inr (ci, fs))) (hq : tk_cl[ci]? = some q) (hq1 : q.1 = y'.cls) (hM : tk_M y' cw d' kc' ks' (.ref b :: as) w (tk_det (.inl v) w1)) (hw : w1.length = w.length) (hdd : d' < d) (hkc : cells + kc' ≤ kc) (hks : slots + ks' ≤ ks) (hrest : (rest.map fun v => v.category).sum ≤ 8) (hn : as.length = n') (hst : as.reverse ++ .ref b :: rest = st)
    (kr : tk_T y cc nL rt hh d kc ks ro (cells + kc') (slots + ks') Q (pc + 3) lv (v.toList ++ rest) w1) : tk_T y cc nL rt hh d kc ks ro cells slots Q pc lv st w := by
  refine tk_callV hd hl hC hb hq hq1 hM hdd hkc hks hrest hn hst ?_ ?_ ?_
  · rintro r x ⟨-, rfl⟩
    exact tk_kps_same hw
  · rintro r x ⟨h1, rfl⟩
    cases h1
    exact kr
  · rintro C x ⟨h1, -⟩
    cases h1
/-- a call that returns, with an answer and a world that Q' allows; as long as it was -/
theorem tk_callVq {b ci : Nat} {fs : List Value} {q : vw_C} (hd : decode cc pc = .ok (.invokevirtual idx, 3)) (hl : tk_ML y.cls idx y') (hC : tk_CV y' cw nL' n') (hb : w[b]? = some (.inr (ci, fs))) (hq : tk_cl[ci]? = some q) (hq1 : q.1 = y'.cls) (hM : tk_M y' cw d' kc' ks' (.ref b :: as) w Q') (hw : ∀ r x, Q' r x → x.length = w.length ∧ ∃ v, r = .inl v) (hdd : d' < d) (hkc : cells + kc' ≤ kc) (hks : slots + ks' ≤ ks) (hrest : (rest.map fun v => v.category).sum ≤ 8) (hn : as.length = n') (hst : as.reverse ++ .ref b :: rest = st)
    (kr : ∀ r x, Q' (.inl r) x → tk_T y cc nL rt hh d kc ks ro (cells + kc') (slots + ks') Q (pc + 3) lv (r.toList ++ rest) x) : tk_T y cc nL rt hh d kc ks ro cells slots Q pc lv st w := by
  refine tk_callV hd hl hC hb hq hq1 hM hdd hkc hks hrest hn hst ?_ kr ?_
  · intro r x h
    exact tk_kps_same (hw r x h).1
  · intro C x h
    obtain ⟨-, v, hv⟩ := hw _ _ h
    cases hv
end TKD
