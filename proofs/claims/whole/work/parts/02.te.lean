/-! ===== calls that return or throw ===== -/
/-- a value whose place isn't among those that have come -/
def tk_kp (n n' : Nat) (v : Value) : Prop := ∀ k : Nat, v = .ref k → k < n ∨ n' ≤ k
theorem tk_v_kp {n n' : Nat} {ad ad' : Nat → Nat} {v : Value} (hA : tk_Ag n n' ad ad') (h : tk_kp n n' v) : tk_v ad' v = tk_v ad v := by
  cases v with
  | ref k => show Value.ref (ad' k) = .ref (ad k); rw [hA k (h k rfl)]
  | _ => rfl
def tk_kps (n n' : Nat) (lv : List (Option Value)) (st : List Value) : Prop := (∀ v ∈ st, tk_kp n n' v) ∧ ∀ (i : Nat) (v : Value), lv[i]? = some (some v) → tk_kp n n' v
theorem tk_kps_same {n n' : Nat} {lv : List (Option Value)} {st : List Value} (h : n' = n) : tk_kps n n' lv st := by
  subst h
  exact ⟨fun v _ k _ => by omega, fun i v _ k _ => by omega⟩
def tk_kpB (n n' : Nat) (v : Value) : Bool := match v with
  | .ref k => decide (k < n) || decide (n' ≤ k)
  | _ => true
theorem tk_kp_of {n n' : Nat} {v : Value} (h : tk_kpB n n' v = true) : tk_kp n n' v := by
  intro k hk
  subst hk
  simpa [tk_kpB] using h
theorem tk_kps_of {n n' : Nat} {lv : List (Option Value)} {st : List Value} (h1 : st.all (tk_kpB n n') = true) (h2 : lv.all (fun o => match o with | some v => tk_kpB n n' v | none => true) = true) : tk_kps n n' lv st :=
  ⟨fun v hv => tk_kp_of (List.all_eq_true.mp h1 v hv), fun i v hi => tk_kp_of (List.all_eq_true.mp h2 (some v) (List.mem_of_getElem? hi))⟩
/-- the machine goes from an invoking frame into the method y -/
def tk_Inv (p : Program) (l : Launch) (e : Env) (R : Room) (s : State) (m : MethodId) (args : Array Value) (below : List Frame) (meth : Method) (c : Code) (H : Heap) (locs : List Loc) (cells slots : Nat) (g : JFrame) (rest : List Value) (y : MethodName) (a : Array Value) : Prop :=
  ∀ T : State, T.heap = H → Stand p l e R s m args below meth c T locs cells slots → ∃ (mk : MethodId) (vm₁ : Vm), Stand p l e R s m args below meth c (T.setVm vm₁) locs cells slots ∧ s.methodNamed? y = some mk ∧
    ∀ target, Steps p.tables e below (doInvoke e ((T.setVm vm₁).setTop { g with stack := rest }) [] mk a).1 target → Steps p.tables e below (T.setTop g) target
/-- a code word: what it says of its method -/
def tk_isC (cw : Cond) (y : MethodName) (nL : Nat) : Prop := ∀ (a : Array Value) (U : State), cw.before a U = true → ∃ (mk : MethodId) (meth : Method) (c : Code), U.methodNamed? y = some mk ∧ U.vm.method? mk = some meth ∧ meth.code = some c ∧ c.maxLocals = nL ∧ parseMethodDescriptor y.desc = some meth.sig
theorem tk_isC_code {y : MethodName} {cc : ByteArray} {nL : Nat} {rt : Option FieldType} : tk_isC (.code y cc nL rt) y nL := by
  intro a U h
  obtain ⟨mk, hn⟩ := Cond.code_named h
  obtain ⟨meth, c, h1, h2, -, h4, -, -, -, h8⟩ := Cond.code_spec hn h
  exact ⟨mk, meth, c, hn, h1, h2, h4, h8⟩
theorem tk_isC_with {y : MethodName} {cc : ByteArray} {nL : Nat} {rt : Option FieldType} {hh : List (Nat × Nat × Nat × Nat)} : tk_isC (.codeWith y cc nL rt hh) y nL := by
  intro a U h
  obtain ⟨mk, meth, c, hn, h1, h2, -, h4, -, -, -, h8⟩ := Cond.codeWith_spec h
  exact ⟨mk, meth, c, hn, h1, h2, h4, h8⟩
section TKC
variable {y : MethodName} {cc : ByteArray} {nL : Nat} {rt : Option FieldType} {hh : List (Nat × Nat × Nat × Nat)} {d kc ks : Nat} {ro : Nat → Option (Nat × (Nat → Int32))} {cells slots : Nat} {Q : tk_R → tk_W → Prop} {pc : Nat} {lv : List (Option Value)} {rest : List Value} {w : tk_W}
/-- an exception of the class C is on its way, from pc -/
def tk_X (y : MethodName) (cc : ByteArray) (nL : Nat) (rt : Option FieldType) (hh : List (Nat × Nat × Nat × Nat)) (d kc ks : Nat) (ro : Nat → Option (Nat × (Nat → Int32))) (cells slots : Nat) (Q : tk_R → tk_W → Prop) (pc : Nat) (lv : List (Option Value)) (C : String) (w : tk_W) : Prop :=
  ∀ (p : Program) (l : Launch) (e : Env) (s : State) (m : MethodId) (args : Array Value) (below : List Frame) (meth : Method) (c : Code) (D : va_G) (dA : Nat → ClassId) (A : Nat → Prop) (ad0 : Nat → Nat) (n0 : Nat), tk_In p l s m meth c y cc nL rt hh D dA A ad0 ro →
  ∀ (ad : Nat → Nat) (H : Heap) (locs : List Loc) (ls : Array Slot) (st : List Value), tk_Ag n0 w.length ad0 ad → n0 ≤ w.length → va_P D tk_cl (tk_m dA ad w) H → va_D A (tk_m dA ad w) → va_S A s.heap H locs → tk_wf w → tk_L ad ls nL lv →
  ∀ (x : Addr) (ce : Cell), H[x]? = some ce → ce.vm = .none → s.vm.findClass C = some ce.cls →
  ∀ T : State, T.heap = H → Stand p l e (tk_rm d kc ks) s m args below meth c T locs cells slots → ∃ t, Steps p.tables e below ((T.setTop (F0 m pc ls st)).pushFrame (.throwing x)) t ∧ tk_Z below D dA A ad0 n0 s kc ks Q t
theorem tk_Th.at {A : Nat → Prop} {ad : Nat → Nat} {s U : State} {w : tk_W} {dA : Nat → ClassId} {H : Heap} {locs : List Loc} (h : tk_Th A s) (hvm : s.vm.Alike U.vm) (hU : U.heap = H) (hS : va_S A s.heap H locs) (hD : va_D A (tk_m dA ad w)) (hA : ∀ q : Nat, s.heap.size ≤ q → A q) : tk_Th (tk_A ad w H.size) U := by
  obtain ⟨u, v, h1, h2, h3, h4, h5, h6⟩ := h
  have hAB : ∀ q, tk_A ad w H.size q → A q := by
    intro q hq
    rcases hq with ⟨k, hk, rfl⟩ | hq
    · exact hD.2 k _ (tk_m_get (List.getElem?_eq_getElem hk))
    · exact hA q (Nat.le_trans hS.1 hq)
  refine ⟨u, v, h1, h2, ?_, ?_, ?_, ?_⟩
  · rw [hU]; exact ((h3.moved hvm).kept hS.2.1).narrow hAB
  · rw [hU]; exact ((h4.moved hvm).kept hS.2.1).narrow hAB
  · rw [hU]; exact h5.go hvm hS.2.1 hAB
  · rw [hU]; exact h6.go hvm hS.2.1 hAB
set_option maxHeartbeats 1000000 in
theorem tk_call {y' : MethodName} {cw : Cond} {nL' d' kc' ks' : Nat} {as st : List Value} {Q' : tk_R → tk_W → Prop} {ig : Instr} (hd : decode cc pc = .ok (ig, 3)) (hM : tk_M y' cw d' kc' ks' as w Q') (hC : tk_isC cw y' nL') (hcw : cw ∈ tk_tbl) (hini : Cond.initialized y'.cls ∈ tk_tbl)
    (hdd : d' < d) (hnL : nL' ≤ 40) (hkc : cells + kc' ≤ kc) (hks : slots + ks' ≤ ks) (hrest : (rest.map fun v => v.category).sum ≤ 8)
    (hinv : ∀ (p : Program) (l : Launch) (e : Env) (s : State) (m : MethodId) (args : Array Value) (below : List Frame) (meth : Method) (c : Code) (D : va_G) (dA : Nat → ClassId) (A : Nat → Prop) (ad0 : Nat → Nat), tk_In p l s m meth c y cc nL rt hh D dA A ad0 ro →
      ∀ (ad : Nat → Nat) (H : Heap) (locs : List Loc) (ls : Array Slot), va_P D tk_cl (tk_m dA ad w) H → ls.size = nL → tk_Inv p l e (tk_rm d kc ks) s m args below meth c H locs cells slots (F0 m pc ls (st.map (tk_v ad))) (rest.map (tk_v ad)) y' (as.map (tk_v ad)).toArray)
    (hkp : ∀ r w', Q' r w' → tk_kps w.length w'.length lv rest)
    (kr : ∀ r w', Q' (.inl r) w' → tk_T y cc nL rt hh d kc ks ro (cells + kc') (slots + ks') Q (pc + 3) lv (r.toList ++ rest) w')
    (kx : ∀ C w', Q' (.inr C) w' → tk_X y cc nL rt hh d kc ks ro (cells + kc') (slots + ks') Q pc lv C w') : tk_T y cc nL rt hh d kc ks ro cells slots Q pc lv st w := by
  intro p l e s m args below meth c D dA A ad0 n0 I ad H locs ls g1 g2 g3 g4 g5 g6 g7
  obtain ⟨hx, hb, hml, hr', hlk, hnm, hown, hex, hts, hK, hA, hTh, hns, hst, hro⟩ := id I
  intro T hT X
  obtain ⟨mk, vm₁, X₁, hnamed, hstep⟩ := hinv p l e s m args below meth c D dA A ad0 I ad H locs ls g3 g7.1 T hT X
  have hAB : ∀ q, tk_A ad w H.size q → A q := by
    intro q hq
    rcases hq with ⟨k, hk, rfl⟩ | hq
    · exact g4.2 k _ (tk_m_get (List.getElem?_eq_getElem hk))
    · exact hA q (Nat.le_trans g5.1 hq)
  generalize hU : T.setVm vm₁ = U at X₁ hstep
  have hUH : U.heap = H := by rw [← hU]; exact hT
  generalize hg : ({ method := m, pc := pc, locals := ls, stack := rest.map (tk_v ad), locked := none } : JFrame) = g
  have hgm : g.method = m := by rw [← hg]
  have hgs : g.locals.size = c.maxLocals := by rw [← hg]; exact g7.1.trans hml.symm
  have hgp : g.pc = pc := by rw [← hg]
  have hdg : decode c.code g.pc = .ok (ig, 3) := by rw [hb, hgp]; exact hd
  have hgw : 2 * g.monitorRoom + (g.stack.map fun v => v.category).sum ≤ 8 := by
    rw [← hg]
    show 2 * 0 + ((rest.map (tk_v ad)).map fun v => v.category).sum ≤ 8
    rw [tk_cs]; omega
  have htsU : tk_ts U := hts.warm X₁.warmed
  obtain ⟨mk', methY, cY, hn', hmY, hcY, hlY, -⟩ := hC #[] U (htsU _ hcw #[])
  have hnU : U.methodNamed? y' = some mk := X₁.named hnamed
  cases hn'.symm.trans hnU
  obtain ⟨kY, hkY, -⟩ := className_of_methodNamed hnU
  have hinitY : kY.init = .initialized := Cond.initialized_spec (findClass_of_methodNamed hnU) hkY (htsU _ hini #[])
  have h : At U g.method c below := by rw [hgm]; exact X₁.here
  have happ : (headSpec [cw] (tk_rm d' kc' ks')).appliesLoose y' e.platform (U.calling g mk (as.map (tk_v ad)).toArray) = true :=
    Spec.appliesLoose_calling (g := g) h hdg hnU hkY hinitY
      (X₁.room_calling (g := g) (R' := tk_rm d' kc' ks') hgs hmY hcY (by show d' + 8 + 1 ≤ d + 8; omega) (by rw [hlY]; show _ + (nL' + 11) + (d' * 60 + 240) ≤ d * 60 + 240; omega) hkc hks) (atoms_intro (ws := [cw]) fun x hx' => by rw [List.mem_singleton.mp hx']; exact htsU _ hcw _)
  obtain ⟨mid, hmid⟩ := h.above
  have hfr : (U.setTop g).frames = (.java g :: mid) ++ below := by rw [State.frames_setTop' g h.top, hmid]; rfl
  have hPre : tk_U D dA ad w (U.calling g mk (as.map (tk_v ad)).toArray) := by
    have hh : (U.calling g mk (as.map (tk_v ad)).toArray).heap = H := hUH
    have hv : (U.calling g mk (as.map (tk_v ad)).toArray).vm = U.vm := rfl
    refine ⟨by rw [hh]; exact g3, g4.weaken (fun _ _ _ _ => trivial), va_K.moved (by rw [hv]; exact X₁.warmed.alike) hK, g6, hts.warm (by rw [hv]; exact X₁.warmed), ?_⟩
    rw [hh]
    exact hTh.at (by rw [hv]; exact X₁.warmed.alike) hh g5 g4 hA
  obtain ⟨o, s₂, hsteps, -, hend, hq⟩ := Steps.callFree (hM l hst D dA ad) p X.admits X.cas X.clock (acts := []) hfr happ ⟨rfl, hPre⟩ trivial
  have hq' : tk_Y D dA (tk_A ad w H.size) ad w.length (U.calling g mk (as.map (tk_v ad)).toArray) kc' ks' Q' o s₂ := by
    have hh : ((U.setTop g).pushFrame (.invoking mk (as.map (tk_v ad)).toArray)).heap.size = H.size := by
      show U.heap.size = H.size
      rw [hUH]
    rw [← hh]
    exact hq
  have hend' : Ended s₂ (.java g :: below) o := by
    rw [State.frames_setTop' g h.top, X₁.tail] at hend
    exact hend
  obtain ⟨⟨hW₂, L, hsame, hL⟩, hF, r, ad', w', hQ', hOut, hAg, hn9, hP', hD', hwf'⟩ := hq'
  have hFz : H.size ≤ s₂.heap.size := by rw [← hUH]; exact hF.1
  have hFk : ∀ q : Nat, q < H.size → ¬ tk_A ad w H.size q → s₂.heap[q]? = H[q]? := fun q h1 h2 => by
    have := hF.2 q (by show q < U.heap.size; rw [hUH]; exact h1) h2
    rw [this]
    show U.heap[q]? = H[q]?
    rw [hUH]
  have hS2 : va_S A s.heap s₂.heap (locs ++ L) := ⟨Nat.le_trans g5.1 hFz, fun q h1 h2 => (hFk q (Nat.lt_of_lt_of_le h1 g5.1) (fun z => h2 (hAB q z))).trans (g5.2.1 q h1 h2), fun q hq1 => by
    rcases List.mem_append.mp hq1 with h1 | h1
    · exact g5.2.2 q h1
    · exact hAB _ (hL q h1)⟩
  have hkp' := hkp r w' hQ'
  have hag2 : tk_Ag n0 w'.length ad0 ad' := fun k hk => (hAg k (by omega)).trans (g1 k (by omega))
  have hg7 : tk_L ad' ls nL lv := ⟨g7.1, g7.2.1, fun i v hi => by rw [tk_v_kp hAg (hkp'.2 i v hi)]; exact g7.2.2 i v hi⟩
  have hrm : rest.map (tk_v ad') = rest.map (tk_v ad) := List.map_congr_left (fun v hv => tk_v_kp hAg (hkp'.1 v hv))
  rcases r with v | C
  · obtain rfl : o = .returned (v.map (tk_v ad')) := hOut
    obtain ⟨T', X', hW3, -, hs2⟩ := X₁.outOf hgm hdg hend' hW₂ hsame
    have hTh' : T'.heap = s₂.heap := by rw [hs2]; rfl
    have hk := kr v w' hQ' p l e s m args below meth c D dA A ad0 n0 I ad' s₂.heap (locs ++ L) ls hag2 (Nat.le_trans g2 hn9) hP' (hD'.weaken (fun k q _ h9 => hAB q.1 h9)) hS2 hwf' hg7
    obtain ⟨t, a1, b1⟩ := hk T' hTh' X'
    refine ⟨t, hstep _ ?_, b1⟩
    rw [hg]
    refine hsteps.trans ?_
    rw [hs2, ← hg]
    have he : (v.toList ++ rest).map (tk_v ad') = (v.map (tk_v ad')).toList ++ rest.map (tk_v ad) := by
      rw [List.map_append, hrm]
      cases v <;> rfl
    rw [he] at a1
    exact a1
  · obtain ⟨x, ce, rfl, hce, hcv, hcl⟩ := hOut
    obtain ⟨T', X', hW3, -, hs2⟩ := X₁.outOfThrown hgm hend' hW₂ hsame
    have hTh' : T'.heap = s₂.heap := by rw [hs2]; rfl
    have hcl' : s.vm.findClass C = some ce.cls := by
      have h9 : U.vm.findClass C = some ce.cls := hcl
      rw [X₁.warmed.alike.findClass] at h9
      exact h9
    obtain ⟨t, a1, b1⟩ := kx C w' hQ' p l e s m args below meth c D dA A ad0 n0 I ad' s₂.heap (locs ++ L) ls (rest.map (tk_v ad)) hag2 (Nat.le_trans g2 hn9) hP' (hD'.weaken (fun k q _ h9 => hAB q.1 h9)) hS2 hwf' hg7 x ce hce hcv hcl' T' hTh' X'
    refine ⟨t, hstep _ ?_, b1⟩
    rw [hg]
    refine hsteps.trans ?_
    rw [hs2, ← hg]
    exact a1
/-- not caught here: it leaves the method -/
theorem tk_X.out {C : String} (hout : ∀ x ∈ hh, (decide (x.1 ≤ pc) && decide (pc < x.2.1)) = false) (hc : cells ≤ kc) (hs : slots ≤ ks) (q : Q (.inr C) w) : tk_X y cc nL rt hh d kc ks ro cells slots Q pc lv C w := by
  intro p l e s m args below meth c D dA A ad0 n0 I ad H locs ls st g1 g2 g3 g4 g5 g6 g7 x ce hce hcv hcl T hT X
  obtain ⟨hx, hb, hml, hr', hlk, hnm, hown, hex, hts, hK, hA, hTh, hns, hst, hro⟩ := id I
  have hout' : ∀ z ∈ c.exceptionTable.toList, covers z (F0 m pc ls st).pc = false := by
    intro z hz
    have := hout (z.startPc, z.endPc, z.handlerPc, z.catchType) (by rw [← hex]; exact List.mem_map.mpr ⟨z, hz, rfl⟩)
    exact this
  obtain ⟨st1, hrun, hend, hW, hsm⟩ := X.leaveThrown x (g := F0 m pc ls st) rfl rfl rfl hout' hlk
  refine ⟨_, st1, .threw x, hrun, hend, ⟨hW, locs, hsm.mono hc hs, g5.2.2⟩, g5.F hT, .inr C, ad, w, q, ⟨x, ce, rfl, ?_, hcv, hcl⟩, g1, g2, ?_, g4, g6⟩
  · show T.heap[x]? = some ce
    rw [hT]; exact hce
  · show va_P D tk_cl (tk_m dA ad w) T.heap
    rw [hT]; exact g3
end TKC
