/-! words that hold on while the tables warm -/
def tk_gx (w : Cond) : Bool := match w with
  | .arrayClass _ => true
  | .fieldLinkNest .. => true
  | .methodLinkNest .. => true
  | .stringRef .. => true
  | .not (.castable ..) => true
  | _ => false
def tk_gd (w : Cond) : Bool := (w.onTables && w.keeps) || (w.onTables && w.faceAtom) || tk_gx w
theorem tk_warm {w : Cond} {s U : State} {a a' : Array Value} (hg : tk_gd w = true) (hW : s.WarmedH U.vm) (h : w.before a s = true) : w.before a' U = true := by
  simp only [tk_gd, Bool.or_eq_true] at hg
  rcases hg with (h1 | h1) | h1
  · exact word_at hW (Or.inl h1) h
  · rw [Bool.and_eq_true] at h1
    exact va_tabs h1.1 (rfl : (s.setVm U.vm).vm = U.vm) (Cond.faceAtom_setVm hW.alike w h1.2 h)
  · match w, h1, h with
    | .arrayClass ty, _, h => exact word_at hW (Or.inr ⟨ty, rfl⟩) h
    | .fieldLinkNest .., _, h => exact va_tabs rfl (rfl : (s.setVm U.vm).vm = U.vm) (Cond.fieldLinkNest_warmed hW h)
    | .methodLinkNest .., _, h => exact va_tabs rfl (rfl : (s.setVm U.vm).vm = U.vm) (Cond.methodLinkNest_warmed hW h)
    | .stringRef .., _, h =>
      have h2 := Cond.stringRef_warmed hW h
      simp only [Cond.before, Cond.holds, Cond.value, State.names, State.poolOf?, State.resolvedAt?, State.vm_setVm] at h2 ⊢
      exact h2
    | .not (.castable x y), _, h =>
      have h2 : (Cond.not (.castable x y)).before a (s.setVm U.vm) = true := Cond.castAtom_setVm hW.alike _ rfl h
      simp only [Cond.before, Cond.holds, Cond.value, State.vm_setVm] at h2 ⊢
      exact h2
abbrev tk_cl : List vw_C := vwCl
def tk_tbl : List Cond := (lw_tbl ++ tk_ncl).filter tk_gd
theorem tk_in {w : Cond} (h : w ∈ lw_tbl) (hg : tk_gd w = true) : w ∈ tk_tbl := List.mem_filter.mpr ⟨List.mem_append_left _ h, hg⟩
theorem tk_at {w : Cond} (i : Nat) (h : tables_1[i]? = some w) (hg : tk_gd w = true) : w ∈ tk_tbl := tk_in (List.mem_append_right _ (List.mem_of_getElem? h)) hg
theorem tk_ac {w : Cond} (i : Nat) (h : tables_1[i]? = some w) (hg : tk_gd w = true) : w ∈ tk_tbl := tk_at i h hg
theorem tk_sl {w : Cond} (h : w ∈ k2_sels lw_privs) (hg : tk_gd w = true) : w ∈ tk_tbl := tk_in (List.mem_append_left _ h) hg
theorem tk_nc {w : Cond} (h : w ∈ tk_ncl) (hg : tk_gd w = true) : w ∈ tk_tbl := List.mem_filter.mpr ⟨List.mem_append_right _ h, hg⟩
theorem tk_all {ws : List Cond} (h : ∀ w ∈ ws, w ∈ tables_1) (hg : ws.all tk_gd = true) : ∀ w ∈ ws, w ∈ tk_tbl := fun w hw => tk_in (List.mem_append_right _ (h w hw)) (List.all_eq_true.mp hg w hw)
/-- the tables' words at a state, whatever the arguments -/
def tk_ts (U : State) : Prop := ∀ x ∈ tk_tbl, ∀ a : Array Value, x.before a U = true
theorem tk_ts.warm {s U : State} (h : tk_ts s) (hW : s.WarmedH U.vm) : tk_ts U := fun x hx a => tk_warm (List.mem_filter.mp hx).2 hW (h x hx #[])
theorem tk_ts.of {s : State} {args : Array Value} (h : ∀ w ∈ lw_tbl, w.before args s = true) (h2 : ∀ w ∈ tk_ncl, w.before args s = true) : tk_ts s := fun x hx a => tk_warm (List.mem_filter.mp hx).2 (State.WarmedH.refl s) ((List.mem_append.mp (List.mem_filter.mp hx).1).elim (h x) (h2 x))
theorem tk_ts.at {s : State} (h : tk_ts s) (a : Array Value) : ∀ w ∈ tk_tbl, w.before a s = true := fun w hw => h w hw a
/-! the kinds of arrays -/
def tk_ty : List FieldType := [.int, .long, .boolean, .byte]
def tk_tys (dA : Nat → ClassId) : List (ClassId × FieldType) := [(dA 0, .int), (dA 1, .long), (dA 2, .boolean), (dA 3, .byte)]
/-- where a static field lies: in its class's statics cell, which is outside A -/
def tk_Ls (C n f9 : String) (A : Nat → Prop) (U : State) (H : Heap) : Prop := ∃ (c : ClassId) (k : Class) (i : Nat) (f : Field) (a : Nat) (cell : Cell), U.vm.findClass C = some c ∧ U.fieldFound? C n f9 = some (c, k, i, f) ∧ f.isStatic = true ∧ k.statics = some a ∧ H[a]? = some cell ∧ cell.vm.isStatics = true ∧ cell.cls = c ∧ f.slot < cell.slots.size ∧ k.staticTypes[f.slot]? = some f.type ∧ ¬ A a
theorem tk_Ls.go {C n f9 : String} {A B : Nat → Prop} {u U : State} {H H1 : Heap} (h : tk_Ls C n f9 A u H) (hvm : u.vm.Alike U.vm) (hq : ∀ a : Nat, a < H.size → ¬ A a → H1[a]? = H[a]?) (hAB : ∀ q, B q → A q) : tk_Ls C n f9 B U H1 := by
  obtain ⟨c, k, i, f, a, cell, h1, h2, h3, h4, h5, h6, h7, h8, h9, h10⟩ := h
  obtain ⟨k', hi', he⟩ := State.fieldFound?_setVm hvm h2
  exact ⟨c, k', i, f, a, cell, by rw [hvm.findClass]; exact h1, hi', h3, by rw [he]; exact h4, by rw [hq a (Array.getElem?_eq_some_iff.mp h5).1 h10]; exact h5, h6, h7, h8, by rw [he]; exact h9, fun z => h10 (hAB _ z)⟩
/-- what a throw needs of the heap: two statics of Throwable, outside A -/
def tk_Th (A : Nat → Prop) (s : State) : Prop := ∃ u v : Value, u.isRef = true ∧ v.isRef = true ∧ va_Z Bundle.tN "UNASSIGNED_STACK" Bundle.steD u A s s.heap ∧ va_Z Bundle.tN "SUPPRESSED_SENTINEL" Bundle.listD v A s s.heap ∧ tk_Ls Bundle.tN "UNASSIGNED_STACK" Bundle.steD A s s.heap ∧ tk_Ls Bundle.tN "SUPPRESSED_SENTINEL" Bundle.listD A s s.heap
def tk_A (ad : Nat → Nat) (w : tk_W) (sz : Nat) : Nat → Prop := fun q => (∃ k : Nat, k < w.length ∧ q = ad k) ∨ sz ≤ q
def tk_rm (d kc ks : Nat) : Room := { frames := d + 8, cells := kc, slots := ks, locals := d * 60 + 240 }
def tk_Ag (n0 n : Nat) (ad0 ad : Nat → Nat) : Prop := ∀ k : Nat, (k < n0 ∨ n ≤ k) → ad k = ad0 k
theorem tk_Ag.rf {n0 n : Nat} {ad : Nat → Nat} : tk_Ag n0 n ad ad := fun _ _ => rfl
/-- the end of a method, as its caller sees it -/
def tk_Out (ad : Nat → Nat) (st t : State) (o : Outcome) (r : tk_R) : Prop := match r with
  | .inl v => o = .returned (v.map (tk_v ad))
  | .inr C => ∃ (a : Addr) (ce : Cell), o = .threw a ∧ t.heap[a]? = some ce ∧ ce.vm = .none ∧ st.vm.findClass C = some ce.cls
def tk_Y (D : va_G) (dA : Nat → ClassId) (A : Nat → Prop) (ad0 : Nat → Nat) (n0 : Nat) (s : State) (kc ks : Nat) (Q : tk_R → tk_W → Prop) (o : Outcome) (t : State) : Prop :=
  (s.WarmedH t.vm ∧ ∃ L : List Loc, s.sameButNew ({ t with vm := s.vm } : State) L kc ks ∧ ∀ q ∈ L, A q.base) ∧ va_F A s t ∧
  ∃ (r : tk_R) (ad : Nat → Nat) (w : tk_W), Q r w ∧ tk_Out ad s t o r ∧ tk_Ag n0 w.length ad0 ad ∧ n0 ≤ w.length ∧ va_P D tk_cl (tk_m dA ad w) t.heap ∧ va_D A (tk_m dA ad w) ∧ tk_wf w
def tk_Z (below : List Frame) (D : va_G) (dA : Nat → ClassId) (A : Nat → Prop) (ad0 : Nat → Nat) (n0 : Nat) (s : State) (kc ks : Nat) (Q : tk_R → tk_W → Prop) : State → Prop := fun t =>
  ∃ o, t.status = .running ∧ Ended t below o ∧ tk_Y D dA A ad0 n0 s kc ks Q o t
/-- what stands while a method runs: the machine, the code, the tables, what is given of the heap -/
abbrev tk_In (p : Program) (l : Launch) (s : State) (m : MethodId) (meth : Method) (c : Code) (y : MethodName) (cc : ByteArray) (nL : Nat) (rt : Option FieldType) (hh : List (Nat × Nat × Nat × Nat)) (D : va_G) (dA : Nat → ClassId) (A : Nat → Prop) (ad0 : Nat → Nat) (ro : Nat → Option (Nat × (Nat → Int32))) : Prop :=
  p.tables.exec = Jvm.exec ∧ c.code = cc ∧ c.maxLocals = nL ∧ meth.sig.returnType = rt ∧ meth.locks = false ∧ meth.name = y.name ∧ s.vm.findClass y.cls = some m.cls ∧
  c.exceptionTable.toList.map (fun h => (h.startPc, h.endPc, h.handlerPc, h.catchType)) = hh ∧ tk_ts s ∧ va_K D tk_cl (tk_tys dA) s ∧ (∀ q : Nat, s.heap.size ≤ q → A q) ∧ tk_Th A s ∧
  (∀ (q : Nat) (cell : Cell), A q → s.heap[q]? = some cell → cell.vm.isStatics = false) ∧ l.stackTraces = false ∧
  (∀ (k L : Nat) (xs : Nat → Int32), ro k = some (L, xs) → va_X (ad0 k) L xs s s.heap ∧ ad0 k < s.heap.size ∧ ¬ A (ad0 k))
/-- THE WALK: at pc, with these locals, this stack and this world, the method comes to an end with Q -/
def tk_T (y : MethodName) (cc : ByteArray) (nL : Nat) (rt : Option FieldType) (hh : List (Nat × Nat × Nat × Nat)) (d kc ks : Nat) (ro : Nat → Option (Nat × (Nat → Int32))) (cells slots : Nat) (Q : tk_R → tk_W → Prop) (pc : Nat) (lv : List (Option Value)) (st : List Value) (w : tk_W) : Prop :=
  ∀ (p : Program) (l : Launch) (e : Env) (s : State) (m : MethodId) (args : Array Value) (below : List Frame) (meth : Method) (c : Code) (D : va_G) (dA : Nat → ClassId) (A : Nat → Prop) (ad0 : Nat → Nat) (n0 : Nat), tk_In p l s m meth c y cc nL rt hh D dA A ad0 ro →
  ∀ (ad : Nat → Nat) (H : Heap) (locs : List Loc) (ls : Array Slot), tk_Ag n0 w.length ad0 ad → n0 ≤ w.length → va_P D tk_cl (tk_m dA ad w) H → va_D A (tk_m dA ad w) → va_S A s.heap H locs → tk_wf w → tk_L ad ls nL lv →
  W p l e (tk_rm d kc ks) s m args below meth c H locs cells slots (tk_Z below D dA A ad0 n0 s kc ks Q) (F0 m pc ls (st.map (tk_v ad)))
/-- the heap that a method finds -/
def tk_U (D : va_G) (dA : Nat → ClassId) (ad : Nat → Nat) (w : tk_W) (U : State) : Prop :=
  va_P D tk_cl (tk_m dA ad w) U.heap ∧ va_D (fun _ => True) (tk_m dA ad w) ∧ va_K D tk_cl (tk_tys dA) U ∧ tk_wf w ∧ tk_ts U ∧ tk_Th (tk_A ad w U.heap.size) U
/-- a method's CONTRACT at arguments as and world w: it ends, with Q -/
def tk_M (y : MethodName) (cw : Cond) (d kc ks : Nat) (as : List Value) (w : tk_W) (Q : tk_R → tk_W → Prop) : Prop :=
  ∀ l : Launch, l.stackTraces = false → ∀ (D : va_G) (dA : Nat → ClassId) (ad : Nat → Nat), MetFree l y (headSpec [cw] (tk_rm d kc ks)) (fun args U => args = (as.map (tk_v ad)).toArray ∧ tk_U D dA ad w U) (fun _ _ _ _ _ => True)
    (fun _ s o t => tk_Y D dA (tk_A ad w s.heap.size) ad w.length s kc ks Q o t)
theorem tk_at_vm {D : va_G} {q : Nat × va_E} {H : Heap} (h : va_at D tk_cl q H) : ∃ cell : Cell, H[q.1]? = some cell ∧ cell.vm.isStatics = false := by
  obtain ⟨a, x⟩ := q
  rcases x with ⟨cA, n, f⟩ | o
  · have h' : H[a]? = some (vp_cell cA (n, f)) := h
    refine ⟨_, h', ?_⟩
    rcases f with f | f | f | f | f <;> rfl
  · obtain ⟨r, -, cell, q1, q2, q3, -⟩ := h
    exact ⟨cell, q1, by rw [q3]; rfl⟩
theorem tk_U.ns {D : va_G} {dA : Nat → ClassId} {ad : Nat → Nat} {w : tk_W} {H : Heap} (hP : va_P D tk_cl (tk_m dA ad w) H) : ∀ (q : Nat) (cell : Cell), tk_A ad w H.size q → H[q]? = some cell → cell.vm.isStatics = false := by
  intro q cell hq hc
  rcases hq with ⟨k, hk, rfl⟩ | hq
  · obtain ⟨x, hx⟩ : ∃ x, w[k]? = some x := ⟨w[k], List.getElem?_eq_getElem hk⟩
    obtain ⟨c2, h1, h2⟩ := tk_at_vm (hP k _ (tk_m_get hx))
    cases h1.symm.trans hc
    exact h2
  · have := (Array.getElem?_eq_some_iff.mp hc).1
    omega
theorem tk_D_self {D : va_G} {dA : Nat → ClassId} {ad : Nat → Nat} {w : tk_W} {A : Nat → Prop} {sz : Nat} (h : va_D A (tk_m dA ad w)) : va_D (tk_A ad w sz) (tk_m dA ad w) := by
  refine ⟨h.1, fun k q hq => ?_⟩
  obtain ⟨x, hx, rfl⟩ := tk_m_of hq
  exact Or.inl ⟨k, (List.getElem?_eq_some_iff.mp hx).1, rfl⟩
theorem tk_lv0 {ad : Nat → Nat} {as : List Value} {nL : Nat} {lv : List (Option Value)} (hl : (lg_sl as).length ≤ nL) (he : tk_ent as ++ List.replicate (nL - (lg_sl as).length) none = lv) :
    tk_L ad ((lg_sl (as.map (tk_v ad)) ++ List.replicate (nL - (lg_sl (as.map (tk_v ad))).length) Slot.unset).toArray) nL lv := by
  have hlen : (lg_sl (as.map (tk_v ad))).length = (lg_sl as).length := by
    clear hl he
    induction as with
    | nil => rfl
    | cons a as ih =>
      simp only [lg_sl, List.map_cons, List.flatMap_cons, tk_cat, List.length_append] at ih ⊢
      rw [ih]
      congr 1
      split <;> rfl
  have h := lv_entry (as.map (tk_v ad)) (n := nL) (by rw [hlen]; exact hl)
  refine ⟨h.1, h.2.1, fun i v hi => ?_⟩
  subst he
  rcases Nat.lt_or_ge i (tk_ent as).length with hlt | hge
  · rw [List.getElem?_append_left hlt] at hi
    have h1 := tk_ent_at ad as i v hi
    rw [List.getElem?_toArray, List.getElem?_append_left (List.getElem?_eq_some_iff.mp h1).1]
    exact h1
  · rw [List.getElem?_append_right hge, List.getElem?_replicate] at hi
    split at hi <;> cases hi
/-- a contract out of the walk of the body -/
theorem tk_M.of {y : MethodName} {cc : ByteArray} {nL : Nat} {rt : Option FieldType} {d kc ks : Nat} {as : List Value} {w : tk_W} {Q : tk_R → tk_W → Prop} {lv : List (Option Value)} (hy : plainName y.cls = true)
    (hl : (lg_sl as).length ≤ nL) (he : tk_ent as ++ List.replicate (nL - (lg_sl as).length) none = lv)
    (h : tk_T y cc nL rt [] d kc ks (fun _ => none) 0 0 Q 0 lv [] w) : tk_M y (.code y cc nL rt) d kc ks as w Q := by
  intro l hst D dA ad
  refine MetFree.of_bodyS (code := cc) (maxLocals := nL) (ret := rt) hy ?_ ?_
  · intro args s m h0 hn
    obtain ⟨meth, c, h1, h2, h3, h4, h5, h6, -, -⟩ := Cond.code_spec hn (atoms_spec (ws := [.code y cc nL rt]) h0 _ List.mem_cons_self)
    exact ⟨meth, c, h1, h2, h3, h4, h5, h6⟩
  · intro p e s m args below meth c s₁ B hml hP _
    obtain ⟨rfl, hP, hD, hK, hwf, hts, hTh⟩ := hP
    have hh0 : s₁.heap = s.heap := by rw [B.state]; rfl
    have hcw : (Cond.code y cc nL rt).before (as.map (tk_v ad)).toArray s = true := atoms_spec (ws := [.code y cc nL rt]) B.pre _ List.mem_cons_self
    have hex : c.exceptionTable.toList.map (fun h => (h.startPc, h.endPc, h.handlerPc, h.catchType)) = [] := by
      have h9 := B.noHandlers hcw
      have h8 : c.exceptionTable = #[] := by simpa using h9
      rw [h8]; rfl
    have X := h p l e s m (as.map (tk_v ad)).toArray below meth c D dA (tk_A ad w s.heap.size) ad w.length
      ⟨B.exec, B.bytes, hml, B.returns, B.notSynchronized, (name_of_methodNamed B.named B.method).1, findClass_of_methodNamed B.named, hex, hts, hK, fun q hq => Or.inr hq, hTh, tk_U.ns hP, hst, fun k L xs h => by cases h⟩
      ad s.heap [] _ tk_Ag.rf (Nat.le_refl _) hP (tk_D_self (D := D) hD) va_S.rf hwf (tk_lv0 hl he)
    obtain ⟨t, a1, o, b1, b2, b3⟩ := X s₁ hh0 (Stand.of_body B)
    refine ⟨t, o, ?_, b1, b2, b3⟩
    rw [lg_entry_eq]
    exact a1
/-- the same of a method with handlers -/
theorem tk_M.ofW {y : MethodName} {cc : ByteArray} {nL : Nat} {rt : Option FieldType} {hh : List (Nat × Nat × Nat × Nat)} {d kc ks : Nat} {as : List Value} {w : tk_W} {Q : tk_R → tk_W → Prop} {lv : List (Option Value)} (hy : plainName y.cls = true)
    (hl : (lg_sl as).length ≤ nL) (he : tk_ent as ++ List.replicate (nL - (lg_sl as).length) none = lv)
    (h : tk_T y cc nL rt hh d kc ks (fun _ => none) 0 0 Q 0 lv [] w) : tk_M y (.codeWith y cc nL rt hh) d kc ks as w Q := by
  intro l hst D dA ad
  refine MetFree.of_bodyS (code := cc) (maxLocals := nL) (ret := rt) hy ?_ ?_
  · intro args s m h0 hn
    obtain ⟨m', meth, c, h0', h1, h2, h3, h4, -, h5, h6, -⟩ := Cond.codeWith_spec (atoms_spec (ws := [.codeWith y cc nL rt hh]) h0 _ List.mem_cons_self)
    cases hn.symm.trans h0'
    exact ⟨meth, c, h1, h2, h3, h4, h5, h6⟩
  · intro p e s m args below meth c s₁ B hml hP _
    obtain ⟨rfl, hP, hD, hK, hwf, hts, hTh⟩ := hP
    have hh0 : s₁.heap = s.heap := by rw [B.state]; rfl
    have hcw : (Cond.codeWith y cc nL rt hh).before (as.map (tk_v ad)).toArray s = true := atoms_spec (ws := [.codeWith y cc nL rt hh]) B.pre _ List.mem_cons_self
    have hex : c.exceptionTable.toList.map (fun h => (h.startPc, h.endPc, h.handlerPc, h.catchType)) = hh := by
      obtain ⟨m', meth', c', h0', h1, h2, h3, h4, h7, -⟩ := Cond.codeWith_spec hcw
      cases B.named.symm.trans h0'
      cases B.method.symm.trans h1
      cases (Stand.of_body B).code.symm.trans h2
      exact h7
    have X := h p l e s m (as.map (tk_v ad)).toArray below meth c D dA (tk_A ad w s.heap.size) ad w.length
      ⟨B.exec, B.bytes, hml, B.returns, B.notSynchronized, (name_of_methodNamed B.named B.method).1, findClass_of_methodNamed B.named, hex, hts, hK, fun q hq => Or.inr hq, hTh, tk_U.ns hP, hst, fun k L xs h => by cases h⟩
      ad s.heap [] _ tk_Ag.rf (Nat.le_refl _) hP (tk_D_self (D := D) hD) va_S.rf hwf (tk_lv0 hl he)
    obtain ⟨t, a1, o, b1, b2, b3⟩ := X s₁ hh0 (Stand.of_body B)
    refine ⟨t, o, ?_, b1, b2, b3⟩
    rw [lg_entry_eq]
    exact a1
