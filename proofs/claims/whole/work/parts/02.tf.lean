/-! ===== the three invocations ===== -/
def tk_ML (own : String) (idx : Nat) (y : MethodName) : Prop := Cond.methodLink own idx y ∈ tk_tbl ∨ ∃ host, Cond.methodLinkNest own idx y host ∈ tk_tbl
/-- a callee, by its tables' words: its code word, maxLocals, number of parameters -/
def tk_Ca (y : MethodName) (cw : Cond) (nL n : Nat) : Prop := tk_isC cw y nL ∧ cw ∈ tk_tbl ∧ Cond.initialized y.cls ∈ tk_tbl ∧ nL ≤ 40 ∧ (y.cls ≠ "java/lang/invoke/MethodHandle" ∧ y.cls ≠ "java/lang/invoke/VarHandle") ∧ (parseMethodDescriptor y.desc).map (fun d => d.parameters.length) = some n
def tk_CS (y : MethodName) (cw : Cond) (nL n : Nat) : Prop := tk_Ca y cw nL n ∧ Cond.static y ∈ tk_tbl
def tk_CV (y : MethodName) (cw : Cond) (nL n : Nat) : Prop := tk_Ca y cw nL n ∧ Cond.instanceMethod y ∈ tk_tbl ∧ Cond.selects y.cls y y ∈ tk_tbl
def tk_CI (y : MethodName) (cw : Cond) (nL n : Nat) : Prop := tk_Ca y cw nL n ∧ Cond.instanceMethod y ∈ tk_tbl ∧ y.name = "<init>" ∧ ∃ cc, cw = .code y cc nL none
theorem tk_Ca.len {y : MethodName} {cw : Cond} {nL n : Nat} (h : tk_Ca y cw nL n) : ∀ sig, parseMethodDescriptor y.desc = some sig → n = sig.parameters.length := by
  intro sig hs
  have h2 := h.2.2.2.2.2
  rw [hs] at h2
  exact (Option.some.inj h2).symm
section TKV
variable {y : MethodName} {cc : ByteArray} {nL : Nat} {rt : Option FieldType} {hh : List (Nat × Nat × Nat × Nat)} {d kc ks : Nat} {ro : Nat → Option (Nat × (Nat → Int32))} {cells slots : Nat} {Q : tk_R → tk_W → Prop} {pc : Nat} {lv : List (Option Value)} {rest : List Value} {w : tk_W}
variable {y' : MethodName} {cw : Cond} {nL' n' d' kc' ks' idx : Nat} {as st : List Value} {Q' : tk_R → tk_W → Prop}
theorem tk_callS (hd : decode cc pc = .ok (.invokestatic idx, 3)) (hl : tk_ML y.cls idx y') (hC : tk_CS y' cw nL' n') (hM : tk_M y' cw d' kc' ks' as w Q') (hdd : d' < d) (hkc : cells + kc' ≤ kc) (hks : slots + ks' ≤ ks) (hrest : (rest.map fun v => v.category).sum ≤ 8) (hn : as.length = n') (hst : as.reverse ++ rest = st)
    (hkp : ∀ r w', Q' r w' → tk_kps w.length w'.length lv rest)
    (kr : ∀ r w', Q' (.inl r) w' → tk_T y cc nL rt hh d kc ks ro (cells + kc') (slots + ks') Q (pc + 3) lv (r.toList ++ rest) w')
    (kx : ∀ C w', Q' (.inr C) w' → tk_X y cc nL rt hh d kc ks ro (cells + kc') (slots + ks') Q pc lv C w') : tk_T y cc nL rt hh d kc ks ro cells slots Q pc lv st w := by
  refine tk_call hd hM hC.1.1 hC.1.2.1 hC.1.2.2.1 hdd hC.1.2.2.2.1 hkc hks hrest ?_ hkp kr kx
  intro p l e s m args below meth c D dA A ad0 I ad H locs ls g3 hsz T hT X
  obtain ⟨hx, hb, hml, hr', hlk, hnm, hown, hex, hts, hK, hA, hTh, hns, hst0, hro⟩ := id I
  obtain ⟨mk, methM, cM, hnamed, hmethM, -, -, hsigM⟩ := hC.1.1 #[] s (hts _ hC.1.2.1 #[])
  have hstatic : methM.isStatic = true := Cond.static_spec hnamed hmethM (hts _ hC.2 #[])
  obtain ⟨kP, hkP, -⟩ := className_of_methodNamed hnamed
  have hinitP : kP.init = .initialized := Cond.initialized_spec (findClass_of_methodNamed hnamed) hkP (hts _ hC.1.2.2.1 #[])
  have hlen : (as.map (tk_v ad)).length = methM.sig.parameters.length := by rw [List.length_map, hn]; exact hC.1.len _ hsigM
  have hstk : st.map (tk_v ad) = (as.map (tk_v ad)).reverse ++ rest.map (tk_v ad) := by rw [← hst, List.map_append, List.map_reverse]
  rcases hl with hl | ⟨host, hl⟩
  · obtain ⟨vm₁, X₁, hstep₁⟩ := X.invokestatic hx hown (hts _ hl args) hnamed hmethM hstatic hkP hinitP hC.1.2.2.2.2.1 (g := F0 m pc ls (st.map (tk_v ad))) rfl (argsL := as.map (tk_v ad)) (rest := rest.map (tk_v ad)) hlen hstk (by rw [hb]; exact hd)
    exact ⟨mk, vm₁, X₁, hnamed, fun target h => hstep₁ _ fun acts => by rw [doInvoke_state]; exact h⟩
  · obtain ⟨vm₁, X₁, hstep₁⟩ := X.invokestaticNest hx hown (hts _ hl args) hnamed hmethM hstatic hkP hinitP hC.1.2.2.2.2.1 (g := F0 m pc ls (st.map (tk_v ad))) rfl (argsL := as.map (tk_v ad)) (rest := rest.map (tk_v ad)) hlen hstk (by rw [hb]; exact hd)
    exact ⟨mk, vm₁, X₁, hnamed, fun target h => hstep₁ _ fun acts => by rw [doInvoke_state]; exact h⟩
theorem tk_callV {b ci : Nat} {fs : List Value} {q : vw_C} (hd : decode cc pc = .ok (.invokevirtual idx, 3)) (hl : tk_ML y.cls idx y') (hC : tk_CV y' cw nL' n') (hw : w[b]? = some (.inr (ci, fs))) (hq : tk_cl[ci]? = some q) (hq1 : q.1 = y'.cls) (hM : tk_M y' cw d' kc' ks' (.ref b :: as) w Q') (hdd : d' < d) (hkc : cells + kc' ≤ kc) (hks : slots + ks' ≤ ks) (hrest : (rest.map fun v => v.category).sum ≤ 8) (hn : as.length = n') (hst : as.reverse ++ .ref b :: rest = st)
    (hkp : ∀ r w', Q' r w' → tk_kps w.length w'.length lv rest)
    (kr : ∀ r w', Q' (.inl r) w' → tk_T y cc nL rt hh d kc ks ro (cells + kc') (slots + ks') Q (pc + 3) lv (r.toList ++ rest) w')
    (kx : ∀ C w', Q' (.inr C) w' → tk_X y cc nL rt hh d kc ks ro (cells + kc') (slots + ks') Q pc lv C w') : tk_T y cc nL rt hh d kc ks ro cells slots Q pc lv st w := by
  refine tk_call hd hM hC.1.1 hC.1.2.1 hC.1.2.2.1 hdd hC.1.2.2.2.1 hkc hks hrest ?_ hkp kr kx
  intro p l e s m args below meth c D dA A ad0 I ad H locs ls g3 hsz T hT X
  obtain ⟨hx, hb, hml, hr', hlk, hnm, hown, hex, hts, hK, hA, hTh, hns, hst0, hro⟩ := id I
  obtain ⟨mk, methM, hnamed, hmethM, hstM, habM⟩ := Cond.instanceMethod_spec (hts _ hC.2.1 args)
  obtain ⟨mk', methM', cM, hnamed', hmethM', -, -, hsigM⟩ := hC.1.1 #[] s (hts _ hC.1.2.1 #[])
  cases hnamed.symm.trans hnamed'
  cases hmethM.symm.trans hmethM'
  obtain ⟨cellB, hcB, hoB, hclB⟩ := va_recv hK g3 hq (tk_m_get hw)
  obtain ⟨c2, r2, m2, q1, q2, q3, q4, kP, hkP, hkPi⟩ := Cond.selects_spec (hts _ hC.2.2 args)
  rw [hq1] at hclB
  cases hclB.symm.trans q1
  cases (State.methodFound?_of_named hnamed hC.1.2.2.2.2.1).symm.trans q2
  cases hnamed.symm.trans q3
  have hselP : selectMethod e.platform s.vm cellB.cls mk = .method mk := by rw [Launch.admits_selectMethod X.admits]; exact q4
  have hlen : (as.map (tk_v ad)).length = methM.sig.parameters.length := by rw [List.length_map, hn]; exact hC.1.len _ hsigM
  have hstk : st.map (tk_v ad) = (as.map (tk_v ad)).reverse ++ .ref (ad b) :: rest.map (tk_v ad) := by rw [← hst, List.map_append, List.map_reverse]; rfl
  have hcT : T.heap[ad b]? = some cellB := by rw [hT]; exact hcB
  have hne : ∀ z, cellB.vm ≠ .statics z := fun z h => by rw [h] at hoB; cases hoB
  rcases hl with hl | ⟨host, hl⟩
  · obtain ⟨vm₁, X₁, hstep₁⟩ := X.invokevirtual hx hown (hts _ hl args) hnamed hmethM hstM hkP hkPi hC.1.2.2.2.2.1 (a := ad b) (cell := cellB) hcT hne hselP hmethM habM hkP hkPi (g := F0 m pc ls (st.map (tk_v ad))) rfl (argsL := as.map (tk_v ad)) (rest := rest.map (tk_v ad)) hlen hstk (by rw [hb]; exact hd)
    exact ⟨mk, vm₁, X₁, hnamed, fun target h => hstep₁ _ fun acts => by rw [doInvoke_state]; exact h⟩
  · obtain ⟨vm₁, X₁, hstep₁⟩ := X.invokevirtualNest hx hown (hts _ hl args) hnamed hmethM hstM hkP hkPi hC.1.2.2.2.2.1 (a := ad b) (cell := cellB) hcT hne hselP hmethM habM hkP hkPi (g := F0 m pc ls (st.map (tk_v ad))) rfl (argsL := as.map (tk_v ad)) (rest := rest.map (tk_v ad)) hlen hstk (by rw [hb]; exact hd)
    exact ⟨mk, vm₁, X₁, hnamed, fun target h => hstep₁ _ fun acts => by rw [doInvoke_state]; exact h⟩
theorem tk_callI {b : Nat} (hd : decode cc pc = .ok (.invokespecial idx, 3)) (hl : tk_ML y.cls idx y') (hC : tk_CI y' cw nL' n') (hM : tk_M y' cw d' kc' ks' (.ref b :: as) w Q') (hdd : d' < d) (hkc : cells + kc' ≤ kc) (hks : slots + ks' ≤ ks) (hrest : (rest.map fun v => v.category).sum ≤ 8) (hn : as.length = n') (hst : as.reverse ++ .ref b :: rest = st)
    (hkp : ∀ r w', Q' r w' → tk_kps w.length w'.length lv rest)
    (kr : ∀ r w', Q' (.inl r) w' → tk_T y cc nL rt hh d kc ks ro (cells + kc') (slots + ks') Q (pc + 3) lv (r.toList ++ rest) w')
    (kx : ∀ C w', Q' (.inr C) w' → tk_X y cc nL rt hh d kc ks ro (cells + kc') (slots + ks') Q pc lv C w') : tk_T y cc nL rt hh d kc ks ro cells slots Q pc lv st w := by
  refine tk_call hd hM hC.1.1 hC.1.2.1 hC.1.2.2.1 hdd hC.1.2.2.2.1 hkc hks hrest ?_ hkp kr kx
  intro p l e s m args below meth c D dA A ad0 I ad H locs ls g3 hsz T hT X
  obtain ⟨hx, hb, hml, hr', hlk, hnm, hown, hex, hts, hK, hA, hTh, hns, hst0, hro⟩ := id I
  have hpl : e.platform.magicAccessors = ({} : Platform).magicAccessors := by rw [X.admits.platform]
  obtain ⟨hCa, hin, hyn, cc', rfl⟩ := hC
  have hlen : ∀ sig, parseMethodDescriptor y'.desc = some sig → (as.map (tk_v ad)).length = sig.parameters.length := fun sig hs => by rw [List.length_map, hn]; exact hCa.len _ hs
  have hstk : st.map (tk_v ad) = (as.map (tk_v ad)).reverse ++ .ref (ad b) :: rest.map (tk_v ad) := by rw [← hst, List.map_append, List.map_reverse]; rfl
  rcases hl with hl | ⟨host, hl⟩
  · obtain ⟨mk, methM, cM, kP, vm₁, hnamed, hmethM, hcodeM, -, hlocalsM, -, hkP, -, hW₁, hstep₁⟩ := Steps.initColdArgs (e := e) X.here hx X.warmed hpl hown hyn hCa.2.2.2.2.1 (hts _ hl args) (hts _ hin args) (hts _ hCa.2.1 args) (f := F0 m pc ls (st.map (tk_v ad))) rfl hlen hstk (by rw [hb]; exact hd)
    exact ⟨mk, vm₁, X.noted hW₁, hnamed, fun target h => hstep₁ _ fun acts => by rw [doInvoke_state]; exact h⟩
  · obtain ⟨mk, methM, cM, kP, vm₁, hnamed, hmethM, hcodeM, -, hlocalsM, -, hkP, -, hW₁, hstep₁⟩ := Steps.initColdArgsNest (e := e) X.here hx X.warmed hpl hown hyn hCa.2.2.2.2.1 (hts _ hl args) (hts _ hin args) (hts _ hCa.2.1 args) (f := F0 m pc ls (st.map (tk_v ad))) rfl hlen hstk (by rw [hb]; exact hd)
    exact ⟨mk, vm₁, X.noted hW₁, hnamed, fun target h => hstep₁ _ fun acts => by rw [doInvoke_state]; exact h⟩
end TKV
