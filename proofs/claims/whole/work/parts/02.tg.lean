/-! ===== throw new E("text") ===== -/
/-- a walk may be seen as one that begins at its present state -/
theorem tk_rebase {p : Program} {l : Launch} {e : Env} {R : Room} {s : State} {m : MethodId} {args : Array Value} {below : List Frame} {meth : Method} {c : Code} {T : State} {locs : List Loc} {cells slots : Nat} (X : Stand p l e R s m args below meth c T locs cells slots) {R' : Room} (hf : R'.frames ≤ R.frames) (hl : R'.locals ≤ R.locals) (hc : cells + R'.cells ≤ R.cells) (hs : slots + R'.slots ≤ R.slots) :
    Stand p l e R' ((T.setVm s.vm).setFrames (.invoking m args :: below)) m args below meth c T [] 0 0 := by
  have htop : (T.setVm s.vm).topJava?.isSome := X.here.top
  have hF : ((T.setVm s.vm).setFrames (.invoking m args :: below)).frames = .invoking m args :: below := State.frames_setFrames _ (State.cur_lt_of_top htop)
  obtain ⟨g₀, hg0⟩ := Option.isSome_iff_exists.mp htop
  obtain ⟨r, hr⟩ := State.topJava?_eq_some.mp hg0
  have hli : e.platform.stackLimits (T.setVm s.vm).me = e.platform.stackLimits s.me := X.limits
  have hby : (T.setVm s.vm).me.stackBytes = s.me.stackBytes := X.bytes
  have hroom : ((T.setVm s.vm).setFrames (.invoking m args :: below)).hasRoom e.platform R' = true := by
    have h := X.room
    have hU : ((T.setVm s.vm).setFrames (.invoking m args :: below)).localsInUse = s.localsInUse := by
      rw [State.localsInUse_invoking hF (meth := meth) (c := c) X.method X.code, State.localsInUse_invoking X.frames X.method X.code]
    simp only [State.hasRoom, Bool.and_eq_true, decide_eq_true_eq] at h ⊢
    obtain ⟨⟨⟨⟨h1, h2, h3, h4, h5, h6⟩, h7⟩, h8⟩, h9⟩ := h
    rw [X.frames, List.length_cons] at h2 h3
    have q1 := X.heapSize
    have q2 := X.used
    simp only [hF, hU, List.length_cons, State.stackLimits_setFrames, State.stackBytes_setFrames, hli, hby]
    refine ⟨⟨⟨⟨by omega, by omega, by omega, by omega, by omega, h6⟩, ?_⟩, ?_⟩, X.book⟩
    · show T.heap.size + R'.cells ≤ e.platform.maxCells
      omega
    · show T.slotsUsed + R'.slots ≤ e.platform.maxSlots
      omega
  have hnil : ((T.heap.toList.drop T.heap.size).map (·.slots.size)).sum = 0 := by
    rw [List.drop_eq_nil_of_le (Nat.le_of_eq Array.length_toList)]
    rfl
  have hsame : ((T.setVm s.vm).setFrames (.invoking m args :: below)).sameButNew (T.setVm ((T.setVm s.vm).setFrames (.invoking m args :: below)).vm) [] 0 0 := by
    refine ⟨?_, Nat.le_refl _, Nat.le_refl _, ?_, ?_, fun a c9 h9 => ⟨c9, h9, rfl, rfl, fun _ _ => rfl⟩⟩
    · obtain ⟨t, ht, -⟩ := State.frames_cons hr
      show T.setVm s.vm = { ((T.setVm s.vm).setFrames (.invoking m args :: below)).setFrames (T.setVm s.vm).frames with heap := T.heap, slotsUsed := T.slotsUsed }
      rw [State.setFrames_setFrames, State.setFrames_self ht]
      rfl
    · show T.slotsUsed = T.slotsUsed + ((T.heap.toList.drop T.heap.size).map (·.slots.size)).sum
      rw [hnil]
      rfl
    · show ((T.heap.toList.drop T.heap.size).map (·.slots.size)).sum ≤ 0
      rw [hnil]
      exact Nat.le_refl _
  exact ⟨X.admits, X.cas, X.clock, hF, hroom, X.hears, X.method, X.code, X.here, X.tail, X.warmed, by rw [State.stackLimits_setFrames]; rfl, by rw [State.stackBytes_setFrames]; rfl, hsame⟩
/-- where nothing old was written every old cell is as it was -/
theorem tk_frame {s U : State} {k n : Nat} (h : s.sameButNew ({ U with vm := s.vm } : State) [] k n) : s.heap.size ≤ U.heap.size ∧ ∀ q : Nat, q < s.heap.size → U.heap[q]? = s.heap[q]? := by
  obtain ⟨-, h2, -, -, -, h6⟩ := h
  refine ⟨h2, fun q hq => ?_⟩
  obtain ⟨c9, e1, e2, e3, e4⟩ := h6 q _ (Array.getElem?_eq_getElem hq)
  have hs : c9.slots = (s.heap[q]).slots := Array.ext_getElem? fun i => e4 i fun hm => nomatch hm
  have h9 : c9 = s.heap[q] := by
    rw [hs] at e2
    exact e2
  have e5 : U.heap[q]? = some c9 := e1
  rw [e5, h9, Array.getElem?_eq_getElem hq]
def tk_four : List Cond := [.isRef (.static Bundle.tN "UNASSIGNED_STACK" Bundle.steD), .isRef (.static Bundle.tN "SUPPRESSED_SENTINEL" Bundle.listD), .laysStatic Bundle.tN "UNASSIGNED_STACK" Bundle.steD, .laysStatic Bundle.tN "SUPPRESSED_SENTINEL" Bundle.listD]
theorem tk_isRef {C n f9 : String} {v : Value} {A : Nat → Prop} {s : State} {args : Array Value} (h : va_Z C n f9 v A s s.heap) (hv : v.isRef = true) : (Cond.isRef (.static C n f9)).before args s = true := by
  obtain ⟨cf, kf, fi, f, a, cell, h1, h2, h3, h4, h5, h6, h7, -⟩ := h
  have he : (Term.static C n f9).eval args s none [] s = some v := by
    simp [Term.eval, State.fieldNamed?, h1, h2, h4, h5, h6, h7]
  simp only [Cond.before, Cond.holds, Cond.value, he]
  cases v <;> simp_all [Value.isRef]
theorem tk_Th.words {A : Nat → Prop} {s : State} (h : tk_Th A s) (args : Array Value) : ∀ x ∈ tk_four, x.before args s = true := by
  obtain ⟨u, v, h1, h2, h3, h4, h5, h6⟩ := h
  intro x hx
  simp only [tk_four, List.mem_cons, List.not_mem_nil, or_false] at hx
  rcases hx with rfl | rfl | rfl | rfl
  · exact tk_isRef h3 h1
  · exact tk_isRef h4 h2
  · obtain ⟨c, k, i, f, a, cell, e1, e2, e3, e4, e5, e6, e7, e8, e9, -⟩ := h5
    exact Cond.laysStatic_of e1 e2 e3 e4 e5 e6 e7 e8 e9
  · obtain ⟨c, k, i, f, a, cell, e1, e2, e3, e4, e5, e6, e7, e8, e9, -⟩ := h6
    exact Cond.laysStatic_of e1 e2 e3 e4 e5 e6 e7 e8 e9
/-- the tables' words of 'new E("text")' at own's entries ik, is, ic; names: the classes between E and Throwable -/
def tk_Tw (own : String) (ik is ic : Nat) (E text : String) (names : List String) : Prop :=
  Bundle.fit E = true ∧ (∀ n ∈ names, Bundle.fit n = true) ∧ Cond.classLink own ik E ∈ tk_tbl ∧ Cond.initialized E ∈ tk_tbl ∧ Cond.stringRef own is text ∈ tk_tbl ∧ (∀ x ∈ Bundle.ownAtoms own ic E names, x ∈ tk_tbl ∨ x ∈ tk_four) ∧ names.length ≤ 4
section TKT
variable {y : MethodName} {cc : ByteArray} {nL : Nat} {rt : Option FieldType} {hh : List (Nat × Nat × Nat × Nat)} {d kc ks : Nat} {ro : Nat → Option (Nat × (Nat → Int32))} {cells slots : Nat} {Q : tk_R → tk_W → Prop} {pc : Nat} {lv : List (Option Value)} {rest : List Value} {w : tk_W}
set_option maxHeartbeats 2000000 in
theorem tk_throw {ik is ic : Nat} {E text : String} {names : List String} (d0 : decode cc pc = .ok (.new ik, 3)) (d3 : decode cc (pc + 3) = .ok (.dup, 1)) (d4 : decode cc (pc + 4) = .ok (.ldc is, 2)) (d6 : decode cc (pc + 6) = .ok (.invokespecial ic, 3)) (d9 : decode cc (pc + 9) = .ok (.athrow, 1))
    (hT9 : tk_Tw y.cls ik is ic E text names) (hout : ∀ x ∈ hh, (decide (x.1 ≤ pc + 9) && decide (pc + 9 < x.2.1)) = false) (hc : cells + 1 ≤ kc) (hs : slots + 6 ≤ ks) (hrest : (rest.map fun v => v.category).sum ≤ 8) (q : Q (.inr E) w) : tk_T y cc nL rt hh d kc ks ro cells slots Q pc lv rest w := by
  intro p l e s m args below meth c D dA A ad0 n0 I ad H locs ls g1 g2 g3 g4 g5 g6 g7
  obtain ⟨hx, hb, hml, hr', hlk, hnm, hown, hex, hts, hK, hA, hTh, hns, hst, hro⟩ := id I
  obtain ⟨hcls, hnames, hk, hini, hstr, hat, hnl⟩ := hT9
  intro T hT X
  have htr : e.platform.stackTraces = false := (show e.platform.stackTraces = l.stackTraces by rw [X.admits.platform]).trans hst
  have Y := tk_rebase X (R' := { frames := d + 8, locals := d * 60 + 240, cells := 1, slots := 6 }) (Nat.le_refl _) (Nat.le_refl _) hc hs
  obtain ⟨s', hs'⟩ : ∃ z, z = (T.setVm s.vm).setFrames (.invoking m args :: below) := ⟨_, rfl⟩
  rw [← hs'] at Y
  have hvm : s'.vm = s.vm := by rw [hs']; rfl
  have hhp : s'.heap = H := by rw [hs']; exact hT
  have hW0 : s.WarmedH s'.vm := by rw [hvm]; exact State.WarmedH.refl s
  have hts' : tk_ts s' := hts.warm hW0
  have hTh' : tk_Th (tk_A ad w H.size) s' := hTh.at hW0.alike hhp g5 g4 hA
  have h : ∀ x ∈ Bundle.ownAtoms y.cls ic E names, x.before args s' = true := fun x hx' => (hat x hx').elim (fun h1 => hts' x h1 args) (fun h1 => hTh'.words args x h1)
  have hown' : s'.vm.findClass y.cls = some m.cls := by rw [hvm]; exact hown
  have hins : (Cond.instantiable E 6).before args s' = true := h _ (by simp [Bundle.ownAtoms])
  obtain ⟨_, _, _, sa, _, _, _, _, _, hsa⟩ := Cond.stringRef_spec hown' (hts' _ hstr args)
  obtain ⟨vm₁, cX, kX, hfX, hkX, -, -, X₁, st1⟩ := Y.newCold hx (own := y.cls) (C := E) (index := ik) (n := 6) hown' (hts' _ hk args) hins (hts' _ hini args)
    (g := F0 m pc ls (rest.map (tk_v ad))) rfl (by rw [hb]; exact d0) (Nat.le_refl _) (Nat.le_refl _)
  generalize hT1 : (T.setVm vm₁).pushCell { cls := cX, slots := kX.instanceTypes.map defaultValue, vm := .none } = T1 at X₁ st1
  have hcat : (Value.ref T.heap.size).category = 1 := rfl
  have hcellA : T1.heap[T.heap.size]? = some (freshCell cX kX) := by rw [← hT1]; exact State.heap_pushCell_size _ _
  have d3' : decode c.code (pc + 3) = .ok (.dup, 1) := by rw [hb]; exact d3
  have hout' : ∀ z ∈ c.exceptionTable.toList, covers z (pc + 6 + 3) = false := by
    intro z hz
    exact hout (z.startPc, z.endPc, z.handlerPc, z.catchType) (by rw [← hex]; exact List.mem_map.mpr ⟨z, hz, rfl⟩)
  obtain ⟨U, hsteps, hrun, hend, hW, hsame, ce, hce, hO⟩ := X₁.ctorThrowS hx htr (own := y.cls) (cls := E) (names := names) (ic := ic) hown' hcls hnames h (fun x hx => nomatch hx) hfX hkX hcellA (by rw [hhp, hT]; exact Nat.le_refl _) (msg := .ref sa) rfl
    (g := { method := m, pc := pc + 6, locals := ls, stack := .ref sa :: .ref T.heap.size :: .ref T.heap.size :: rest.map (tk_v ad), locked := none }) rfl (g7.1.trans hml.symm) rfl rfl (rest := rest.map (tk_v ad)) rfl
    (by rw [hb]; exact d6) (by rw [hb]; exact d9) hout' (by show names.length + 3 < d + 8; omega) (by
      show 2 * 0 + ((Value.ref T.heap.size :: rest.map (tk_v ad)).map fun v => v.category).sum + (13 * (names.length + 1) + 42) ≤ d * 60 + 240
      rw [List.map_cons, List.sum_cons, hcat, tk_cs]; omega) hlk
  obtain ⟨f1, f2⟩ := tk_frame hsame
  rw [hhp] at f1 f2
  have hWs : s.WarmedH U.vm := State.WarmedH.trans hW0 hW
  have hcl : s.vm.findClass E = some ce.cls := by
    have h9 := hO.cls
    rw [hvm] at h9
    exact h9
  have hall : s.sameButNew ({ U with vm := s.vm } : State) locs kc ks := by
    subst hs'
    obtain ⟨e1, e2⟩ := hsame
    rw [State.setFrames_setFrames] at e1
    have h2 : (T.setVm s.vm).sameButNew ({ U with vm := s.vm } : State) [] (0 + 1) (0 + 6) := ⟨e1, e2⟩
    have h3 := X.same.trans h2
    rw [List.append_nil] at h3
    exact h3.mono hc hs
  have hP' : va_P D tk_cl (tk_m dA ad w) U.heap := fun k x hk9 => (g3 k x hk9).kept (f2 x.1 (g3 k x hk9).lt)
  refine ⟨U, ?_, .threw T.heap.size, hrun, hend, ⟨hWs, locs, hall, g5.2.2⟩, ⟨Nat.le_trans g5.1 f1, fun x h1 h2 => (f2 x (Nat.lt_of_lt_of_le h1 g5.1)).trans (g5.2.1 x h1 h2)⟩, .inr E, ad, w, q, ⟨T.heap.size, ce, rfl, hce, hO.vm, hcl⟩, g1, g2, hP', g4, g6⟩
  refine st1 _ ?_
  show Steps p.tables e below (T1.setTop { method := m, pc := pc + 3, locals := ls, stack := .ref T.heap.size :: rest.map (tk_v ad), locked := none }) _
  jvm_step X₁.here [X₁.here.top, hx, d3', Value.category]
  exact X₁.ldcString hx hown' (text := text) (a := sa) (hts' _ hstr args) hsa (g := { method := m, pc := pc + 4, locals := ls, stack := .ref T.heap.size :: .ref T.heap.size :: rest.map (tk_v ad), locked := none }) rfl (by rw [hb]; exact d4) _ hsteps
end TKT
/-! ===== an exception that is caught: the search through a table whose classes may have to be resolved first ===== -/
def tk_pass (pl : Platform) (s₀ : State) (k pc : Nat) (thrown : ClassId) (z : ExceptionTableEntry) : Prop := covers z pc = false ∨ (z.catchType ≠ 0 ∧ ∃ c, s₀.vm.ClassLinks pl k z.catchType c ∧ s₀.vm.assignable thrown c = false)
theorem tk_search {e : Env} {s₀ : State} {f : JFrame} {a : Addr} {cell : Cell} {x : ExceptionTableEntry} {rest : List ExceptionTableEntry} {c : ClassId} (hobj : ∀ k, cell.vm ≠ .statics k) (hk0 : ∃ k, s₀.vm.classes[cell.cls]? = some k)
    (hx : covers x f.pc = true) (h0 : x.catchType ≠ 0) (hl : s₀.vm.ClassLinks e.platform f.method.cls x.catchType c) (hfit : s₀.vm.assignable cell.cls c = true) :
    ∀ (pre : List ExceptionTableEntry) (S : State), s₀.WarmedH S.vm → S.heap[a]? = some cell → (∀ z ∈ pre, tk_pass e.platform s₀ f.method.cls f.pc cell.cls z) →
      ∃ vm', s₀.WarmedH vm' ∧ ∀ (Q : Handler → Pre) (E : CtlPost) (b : Bool) (acts : List Action), wp (findHandler.go f a (pre ++ x :: rest)) Q E e b acts S ↔ Q (.found x.handlerPc) b acts (S.setVm vm') := by
  obtain ⟨k0, hk0⟩ := hk0
  intro pre
  induction pre with
  | nil =>
    intro S hW hcell _
    obtain ⟨k0', hk0', -⟩ := hW.alike.2.2 _ _ hk0
    obtain ⟨dk, _, _, kt, hd, _, _, _, _, hkt, _, hopen⟩ := hl.here
    obtain ⟨kt', hkt', -⟩ := hW.alike.2.2 _ _ hkt
    have hlS := hW.classLinks hl
    refine ⟨_, hW.noted hd hopen (State.rightAt_cls hl), fun Q E b acts => ?_⟩
    rw [List.nil_append]
    have hx' : (decide (x.startPc ≤ f.pc) && decide (f.pc < x.endPc)) = true := hx
    obtain ⟨ha, ht⟩ := (resolveClass_links e.toSetting hlS).op (op := VmOp.resolveClass f.method.cls x.catchType) rfl
    have hal : S.vm.Alike (S.vm.noted f.method.cls x.catchType (.cls c)) := (Vm.Alike.refl S.vm).noted _ _ _
    obtain ⟨k1', hk1', -⟩ := hal.2.2 _ _ hk0'
    obtain ⟨k2', hk2', -⟩ := hal.2.2 _ _ hkt'
    have hf' : (S.vm.noted f.method.cls x.catchType (.cls c)).assignable cell.cls c = true := by rw [hal.assignable, hW.alike.assignable]; exact hfit
    simp [findHandler.go, hx', h0, ha, ht, hcell, hobj, hk1', hk2', hf', VmOp.dirties, VmOp.acts]
  | cons z zs ih =>
    intro S hW hcell hpass
    obtain ⟨k0', hk0', -⟩ := hW.alike.2.2 _ _ hk0
    have hrest : ∀ u ∈ zs, tk_pass e.platform s₀ f.method.cls f.pc cell.cls u := fun u hu => hpass u (List.mem_cons_of_mem _ hu)
    by_cases hcov : covers z f.pc = true
    · rcases hpass z (List.mem_cons_self ..) with h | ⟨hz0, c', hl', hno⟩
      · rw [h] at hcov; cases hcov
      · obtain ⟨dk, _, _, kt, hd, _, _, _, _, hkt, _, hopen⟩ := hl'.here
        obtain ⟨kt', hkt', -⟩ := hW.alike.2.2 _ _ hkt
        obtain ⟨vm', hW', hq⟩ := ih (S.setVm (S.vm.noted f.method.cls z.catchType (.cls c'))) (hW.noted hd hopen (State.rightAt_cls hl')) hcell hrest
        refine ⟨vm', hW', fun Q E b acts => ?_⟩
        have hlS := hW.classLinks hl'
        have hx' : (decide (z.startPc ≤ f.pc) && decide (f.pc < z.endPc)) = true := hcov
        obtain ⟨ha, ht⟩ := (resolveClass_links e.toSetting hlS).op (op := VmOp.resolveClass f.method.cls z.catchType) rfl
        have hal : S.vm.Alike (S.vm.noted f.method.cls z.catchType (.cls c')) := (Vm.Alike.refl S.vm).noted _ _ _
        obtain ⟨k1', hk1', -⟩ := hal.2.2 _ _ hk0'
        obtain ⟨k2', hk2', -⟩ := hal.2.2 _ _ hkt'
        have hf' : (S.vm.noted f.method.cls z.catchType (.cls c')).assignable cell.cls c' = false := by rw [hal.assignable, hW.alike.assignable]; exact hno
        have hone : wp (findHandler.go f a (z :: (zs ++ x :: rest))) Q E e b acts S ↔ wp (findHandler.go f a (zs ++ x :: rest)) Q E e b acts (S.setVm (S.vm.noted f.method.cls z.catchType (.cls c'))) := by
          simp [findHandler.go, hx', hz0, ha, ht, hcell, hobj, hk1', hk2', hf', VmOp.dirties, VmOp.acts]
        rw [List.cons_append, hone]
        exact hq Q E b acts
    · obtain ⟨vm', hW', hq⟩ := ih S hW hcell hrest
      exact ⟨vm', hW', fun Q E b acts => by
        rw [List.cons_append, W.findHandler_go_skip (by simpa using hcov)]
        exact hq Q E b acts⟩
theorem tk_caught {p : Program} {l : Launch} {e : Env} {R : Room} {s : State} {m : MethodId} {args : Array Value} {below : List Frame} {meth : Method} {c : Code} {T : State} {locs : List Loc} {cells slots : Nat} (X : Stand p l e R s m args below meth c T locs cells slots) (a : Addr) {g : JFrame} (hg : g.method = m) {cell : Cell} (hcell : T.heap[a]? = some cell) (hobj : ∀ k, cell.vm ≠ .statics k)
    (hk0 : ∃ k, s.vm.classes[cell.cls]? = some k) (pre : List ExceptionTableEntry) (x : ExceptionTableEntry) (rest : List ExceptionTableEntry) (hsplit : c.exceptionTable.toList = pre ++ x :: rest) (hpass : ∀ z ∈ pre, tk_pass e.platform s m.cls g.pc cell.cls z) (hx : covers x g.pc = true) (h0 : x.catchType ≠ 0) {k : ClassId} (hl : s.vm.ClassLinks e.platform m.cls x.catchType k) (hfit : s.vm.assignable cell.cls k = true) :
    ∃ vm', Stand p l e R s m args below meth c (T.setVm vm') locs cells slots ∧ ∀ target, Steps p.tables e below ((T.setVm vm').setTop { g with pc := x.handlerPc, stack := [.ref a] }) target → Steps p.tables e below ((T.setTop g).pushFrame (.throwing a)) target := by
  subst hg
  obtain ⟨vm', hW', hq⟩ := tk_search (e := e) (f := g) (a := a) (rest := rest) hobj hk0 hx h0 hl hfit pre ((T.setTop g).pushFrame (.throwing a)) (by exact X.warmed) (by exact hcell) hpass
  refine ⟨vm', X.noted hW', fun target hrest => ?_⟩
  have hfind : ∀ (Q : Handler → Pre) (E : CtlPost) (b : Bool) (acts : List Action), wp (findHandler g a) Q E e b acts ((T.setTop g).pushFrame (.throwing a)) ↔ Q (.found x.handlerPc) b acts (((T.setTop g).pushFrame (.throwing a)).setVm vm') := fun Q E b acts => by
    rw [W.findHandler_eq (s := (T.setTop g).pushFrame (.throwing a)) (meth := meth) (code := c) X.method' X.code, hsplit]
    exact hq Q E b acts
  have hstep : ∀ r : List Frame, (stepThrowing e ((T.setTop g).pushFrame (.throwing a)) a (.java g :: r)).Is ((((T.setTop g).pushFrame (.throwing a)).setVm vm').setFrames (.java { g with pc := x.handlerPc, stack := [.ref a] } :: r)) [] := by
    intro r
    simp only [stepThrowing, searchFrame, vmDo]
    generalize hr : Sem.go _ e false [] ((T.setTop g).pushFrame (.throwing a)) = res
    obtain ⟨as, rfl, ha⟩ := Sem.eq_ok_of hr (a := Handler.found x.handlerPc) (s' := ((T.setTop g).pushFrame (.throwing a)).setVm vm') (acts' := []) (by simp [hfind _ _ _ _])
    exact ⟨rfl, ha⟩
  obtain ⟨hgo, hw⟩ := X.here.throwing a
  refine Steps.head hgo hw ?_
  rw [stepThread_throwing (frames_entered X.here.top _), (hstep _).1]
  obtain ⟨g₀, hg0⟩ := Option.isSome_iff_exists.mp X.here.top
  obtain ⟨r, hr⟩ := State.topJava?_eq_some.mp hg0
  have hr' : (T.setVm vm').frames = .java g₀ :: r := hr
  have hcomm : ∀ (u : State) (F G : List Frame), ((u.setFrames F).setVm vm').setFrames G = (u.setVm vm').setFrames G := by
    intro u F G
    have h1 : (u.setFrames F).setVm vm' = (u.setVm vm').setFrames F := rfl
    rw [h1, State.setFrames_setFrames]
  rw [State.setTop_of_frames _ hr'] at hrest
  rw [hr, List.tail_cons, State.pushFrame, hcomm, State.setTop_of_frames _ hr, hcomm]
  exact hrest
/-- a row of the table that lets an exception of the class C by -/
def tk_by (own : String) (pc : Nat) (C : String) (z : Nat × Nat × Nat × Nat) : Prop := (decide (z.1 ≤ pc) && decide (pc < z.2.1)) = false ∨ (z.2.2.2 ≠ 0 ∧ ∃ nm : String, Cond.classLink own z.2.2.2 nm ∈ tk_tbl ∧ Cond.not (.castable C nm) ∈ tk_tbl)
theorem tk_L.st0 {ad : Nat → Nat} {ls : Array Slot} {nL i x : Nat} {lv : List (Option Value)} (hp : tk_pc lv i = true)
    (h : lv_has ls nL ((i, .ref x) :: (tk_pr ad lv).filter (fun q => !(q.1 == i) && !(q.1 + 1 == i && q.2.category == 2)))) : tk_L ad ls nL (lv.set i none) := by
  refine ⟨h.1, h.2.1, fun j u hj => ?_⟩
  rw [List.getElem?_set] at hj
  by_cases e : i = j
  · subst e
    rw [if_pos rfl] at hj
    split at hj <;> cases hj
  · rw [if_neg e] at hj
    refine h.2.2 (j, tk_v ad u) (List.mem_cons_of_mem _ (List.mem_filter.mpr ⟨tk_pr_in hj, ?_⟩))
    have h1 : (j == i) = false := by simpa using Ne.symm e
    by_cases h2 : j + 1 = i
    · have hc := tk_pc_at hp h2 hj
      simp [h1, tk_cat, hc]
    · simp [h1, h2]
section TKK
variable {y : MethodName} {cc : ByteArray} {nL : Nat} {rt : Option FieldType} {hh : List (Nat × Nat × Nat × Nat)} {d kc ks : Nat} {ro : Nat → Option (Nat × (Nat → Int32))} {cells slots : Nat} {Q : tk_R → tk_W → Prop} {pc : Nat} {lv : List (Option Value)} {rest : List Value} {w : tk_W}
/-- caught by the row (a0, a1, hp, ct); the handler begins with the store of the exception -/
theorem tk_X.catch {C nm : String} {pre suf : List (Nat × Nat × Nat × Nat)} {a0 a1 hp ct i len : Nat} (hsp : hh = pre ++ (a0, a1, hp, ct) :: suf) (hby : ∀ z ∈ pre, tk_by y.cls pc C z) (hcv : (decide (a0 ≤ pc) && decide (pc < a1)) = true) (hct : ct ≠ 0) (hlk9 : Cond.classLink y.cls ct nm ∈ tk_tbl) (hcast : Cond.castable C nm ∈ tk_tbl)
    (hst9 : (∃ k : Fin 4, decode cc hp = .ok (.astore_n k, 1) ∧ (k : Nat) = i ∧ len = 1) ∨ (decode cc hp = .ok (.astore i, 2) ∧ len = 2)) (hpc : tk_pc lv i = true) (hi : i < nL)
    (kk : tk_T y cc nL rt hh d kc ks ro cells slots Q (hp + len) (lv.set i none) [] w) : tk_X y cc nL rt hh d kc ks ro cells slots Q pc lv C w := by
  intro p l e s m args below meth c D dA A ad0 n0 I ad H locs ls st g1 g2 g3 g4 g5 g6 g7 x ce hce hcv9 hcl T hT X
  obtain ⟨hx, hb, hml, hr', hlk, hnm, hown, hex, hts, hK, hA, hTh, hns, hst, hro⟩ := id I
  have hpl : e.platform.magicAccessors = ({} : Platform).magicAccessors := by rw [X.admits.platform]
  obtain ⟨c3, c4, hc3, hc4, hasg⟩ := Cond.castable_spec (hts _ hcast args)
  cases Option.some.inj (hc3.symm.trans hcl)
  obtain ⟨c5, hc5, hcl5⟩ := Cond.classLink_spec hown (hts _ hlk9 args) e.platform hpl
  cases Option.some.inj (hc4.symm.trans hc5)
  rw [hsp] at hex
  obtain ⟨tp, ts, htab, htp, hts9⟩ := List.map_eq_append_iff.mp hex
  obtain ⟨z, zs, rfl, hz, hzs⟩ := List.map_eq_cons_iff.mp hts9
  have e1 : z.startPc = a0 := congrArg (·.1) hz
  have e2 : z.endPc = a1 := congrArg (·.2.1) hz
  have e3 : z.handlerPc = hp := congrArg (·.2.2.1) hz
  have e4 : z.catchType = ct := congrArg (·.2.2.2) hz
  have hpass : ∀ u ∈ tp, tk_pass e.platform s m.cls (F0 m pc ls st).pc ce.cls u := by
    intro u hu
    rcases hby (u.startPc, u.endPc, u.handlerPc, u.catchType) (by rw [← htp]; exact List.mem_map.mpr ⟨u, hu, rfl⟩) with h | ⟨h0, n9, hl9, hno⟩
    · exact Or.inl h
    · obtain ⟨c6, hc6, hcl6⟩ := Cond.classLink_spec hown (hts _ hl9 args) e.platform hpl
      have hv := Cond.holds_not_iff.mp (hts _ hno args)
      simp only [Cond.value, hcl, hc6] at hv
      exact Or.inr ⟨h0, c6, hcl6, Option.some.inj hv⟩
  obtain ⟨vm', X', hgo⟩ := tk_caught X x (g := F0 m pc ls st) rfl (cell := ce) (by rw [hT]; exact hce) (fun k h => by rw [hcv9] at h; cases h) (by obtain ⟨k9, h9, -⟩ := Vm.findClass_spec hcl; exact ⟨k9, h9⟩) tp z zs htab hpass (by show (decide (z.startPc ≤ pc) && decide (pc < z.endPc)) = true; rw [e1, e2]; exact hcv) (by rw [e4]; exact hct) (by rw [e4]; exact hcl5) hasg
  have hW : W p l e (tk_rm d kc ks) s m args below meth c H locs cells slots (tk_Z below D dA A ad0 n0 s kc ks Q) (F0 m hp ls [.ref x]) := by
    rcases hst9 with ⟨k, hd9, hk9, rfl⟩ | ⟨hd9, rfl⟩
    · exact lv_astore_n hx hb hd9 hk9 g7.has hi rfl (fun ls' h' => kk p l e s m args below meth c D dA A ad0 n0 I ad H locs ls' g1 g2 g3 g4 g5 g6 (tk_L.st0 hpc h'))
    · exact lv_astore hx hb hd9 g7.has hi rfl (fun ls' h' => kk p l e s m args below meth c D dA A ad0 n0 I ad H locs ls' g1 g2 g3 g4 g5 g6 (tk_L.st0 hpc h'))
  obtain ⟨t, a9, b9⟩ := hW (T.setVm vm') hT X'
  refine ⟨t, hgo t ?_, b9⟩
  have : ({ F0 m pc ls st with pc := z.handlerPc, stack := [.ref x] } : JFrame) = F0 m hp ls [.ref x] := by rw [e3]
  rw [this]
  exact a9
end TKK
