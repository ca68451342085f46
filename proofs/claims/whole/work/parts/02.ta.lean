/-! ===== T: walks over an abstract world. The world is a list of cells; a reference is a place in that list; 'ad' says where the places lie in the heap. ===== -/
abbrev tk_E : Type := (Nat × vp_A) ⊕ (Nat × List Value)
abbrev tk_W : Type := List tk_E
/-- how a method ends: it returns, or throws an object of the class of that name -/
abbrev tk_R : Type := Option Value ⊕ String
def tk_v (ad : Nat → Nat) (v : Value) : Value := match v with
  | .ref k => .ref (ad k)
  | x => x
def tk_e (dA : Nat → ClassId) (ad : Nat → Nat) (x : tk_E) : va_E := match x with
  | .inl a => .inl (dA a.1, a.2)
  | .inr o => .inr (o.1, o.2.map (tk_v ad))
def tk_m (dA : Nat → ClassId) (ad : Nat → Nat) (w : tk_W) : va_W := w.mapIdx (fun k x => (ad k, tk_e dA ad x))
theorem tk_m_get {dA : Nat → ClassId} {ad : Nat → Nat} {w : tk_W} {k : Nat} {x : tk_E} (h : w[k]? = some x) : (tk_m dA ad w)[k]? = some (ad k, tk_e dA ad x) := by
  simp [tk_m, h]
theorem tk_m_len {dA : Nat → ClassId} {ad : Nat → Nat} {w : tk_W} : (tk_m dA ad w).length = w.length := by simp [tk_m]
theorem tk_m_of {dA : Nat → ClassId} {ad : Nat → Nat} {w : tk_W} {k : Nat} {q : Nat × va_E} (h : (tk_m dA ad w)[k]? = some q) : ∃ x, w[k]? = some x ∧ q = (ad k, tk_e dA ad x) := by
  cases hx : w[k]? with
  | none => simp [tk_m, hx] at h
  | some x =>
    rw [tk_m_get hx] at h
    exact ⟨x, rfl, (Option.some.inj h).symm⟩
theorem tk_m_set {dA : Nat → ClassId} {ad : Nat → Nat} {w : tk_W} (k : Nat) (x : tk_E) : (tk_m dA ad w).set k (ad k, tk_e dA ad x) = tk_m dA ad (w.set k x) := by
  apply List.ext_getElem?
  intro i
  simp only [tk_m, List.getElem?_set, List.getElem?_mapIdx, List.length_mapIdx]
  by_cases h : k = i
  · subst h
    by_cases hl : k < w.length
    · simp [hl]
    · simp [hl]
  · simp [h]
/-- a value that speaks of the first n places alone -/
def tk_ok (n : Nat) (v : Value) : Bool := match v with
  | .ref k => decide (k < n)
  | _ => true
def tk_okE (n : Nat) (x : tk_E) : Bool := match x with
  | .inl _ => true
  | .inr o => o.2.all (tk_ok n)
def tk_wf (w : tk_W) : Prop := ∀ (k : Nat) (x : tk_E), w[k]? = some x → tk_okE w.length x = true
theorem tk_wf_set {w : tk_W} {k : Nat} {x : tk_E} (h : tk_wf w) (hx : tk_okE w.length x = true) : tk_wf (w.set k x) := by
  intro j y hy
  rw [List.length_set]
  rw [List.getElem?_set] at hy
  by_cases hj : k = j
  · subst hj
    rw [if_pos rfl] at hy
    by_cases hl : k < w.length
    · rw [if_pos hl] at hy
      cases hy
      exact hx
    · rw [if_neg hl] at hy
      cases hy
  · rw [if_neg hj] at hy
    exact h j y hy
def tk_up (ad : Nat → Nat) (n q : Nat) : Nat → Nat := fun k => if k = n then q else ad k
theorem tk_v_up {ad : Nat → Nat} {n q : Nat} {v : Value} (h : tk_ok n v = true) : tk_v (tk_up ad n q) v = tk_v ad v := by
  cases v with
  | ref k =>
    have hk : k < n := of_decide_eq_true h
    show Value.ref (if k = n then q else ad k) = .ref (ad k)
    rw [if_neg (Nat.ne_of_lt hk)]
  | _ => rfl
theorem tk_e_up {dA : Nat → ClassId} {ad : Nat → Nat} {n q : Nat} {x : tk_E} (h : tk_okE n x = true) : tk_e dA (tk_up ad n q) x = tk_e dA ad x := by
  rcases x with a | ⟨c, fs⟩
  · rfl
  · show (Sum.inr (c, fs.map (tk_v (tk_up ad n q))) : va_E) = .inr (c, fs.map (tk_v ad))
    have hm : fs.map (tk_v (tk_up ad n q)) = fs.map (tk_v ad) := List.map_congr_left (fun v hv => tk_v_up (List.all_eq_true.mp h v hv))
    rw [hm]
theorem tk_ok_le {n k : Nat} (hk : n ≤ k) {v : Value} (h : tk_ok n v = true) : tk_ok k v = true := by
  cases v with
  | ref j =>
    have hj : j < n := of_decide_eq_true h
    exact decide_eq_true (Nat.lt_of_lt_of_le hj hk)
  | _ => rfl
theorem tk_okE_le {n k : Nat} (hk : n ≤ k) {x : tk_E} (h : tk_okE n x = true) : tk_okE k x = true := by
  rcases x with a | ⟨c, fs⟩
  · rfl
  · exact List.all_eq_true.mpr fun v hv => tk_ok_le hk (List.all_eq_true.mp h v hv)
theorem tk_m_push {dA : Nat → ClassId} {ad : Nat → Nat} {w : tk_W} {x : tk_E} {q : Nat} (hw : tk_wf w) (hx : tk_okE w.length x = true) : tk_m dA (tk_up ad w.length q) (w ++ [x]) = tk_m dA ad w ++ [(q, tk_e dA ad x)] := by
  apply List.ext_getElem?
  intro i
  rcases Nat.lt_trichotomy i w.length with hi | hi | hi
  · have h1 : (w ++ [x])[i]? = w[i]? := List.getElem?_append_left hi
    have h2 : (tk_m dA ad w ++ [(q, tk_e dA ad x)])[i]? = (tk_m dA ad w)[i]? := List.getElem?_append_left (by rw [tk_m_len]; exact hi)
    rw [h2]
    cases hy : w[i]? with
    | none => exact absurd (List.getElem?_eq_none_iff.mp hy) (by omega)
    | some y =>
      rw [tk_m_get hy, tk_m_get (h1.trans hy), tk_e_up (hw i y hy)]
      show some ((if i = w.length then q else ad i), _) = _
      rw [if_neg (Nat.ne_of_lt hi)]
  · subst hi
    have h1 : (w ++ [x])[w.length]? = some x := by simp
    have h2 : (tk_m dA ad w ++ [(q, tk_e dA ad x)])[w.length]? = some (q, tk_e dA ad x) := by
      rw [List.getElem?_append_right (by rw [tk_m_len]; exact Nat.le_refl _), tk_m_len, Nat.sub_self]
      rfl
    rw [tk_m_get h1, h2, tk_e_up hx]
    show some ((if w.length = w.length then q else ad w.length), _) = _
    rw [if_pos rfl]
  · rw [List.getElem?_eq_none (by rw [tk_m_len]; simp; omega), List.getElem?_eq_none (by simp [tk_m_len]; omega)]
theorem tk_wf_push {w : tk_W} {x : tk_E} (hw : tk_wf w) (hx : tk_okE w.length x = true) : tk_wf (w ++ [x]) := by
  intro i y hy
  have hl : (w ++ [x]).length = w.length + 1 := by simp
  rw [hl]
  rcases Nat.lt_or_ge i w.length with hi | hi
  · rw [List.getElem?_append_left hi] at hy
    exact tk_okE_le (Nat.le_succ _) (hw i y hy)
  · rw [List.getElem?_append_right hi] at hy
    have hz : i - w.length < 1 := (List.getElem?_eq_some_iff.mp hy).1
    rw [show i - w.length = 0 by omega] at hy
    cases hy
    exact tk_okE_le (Nat.le_succ _) hx
/-! locals, by their numbers -/
def tk_L (ad : Nat → Nat) (ls : Array Slot) (nL : Nat) (lv : List (Option Value)) : Prop := ls.size = nL ∧ lv_wf ls ∧ ∀ (i : Nat) (v : Value), lv[i]? = some (some v) → ls[i]? = some (.val (tk_v ad v))
def tk_pr (ad : Nat → Nat) (lv : List (Option Value)) : List (Nat × Value) := (List.range lv.length).filterMap (fun i => match lv[i]? with
  | some (some v) => some (i, tk_v ad v)
  | _ => none)
theorem tk_pr_in {ad : Nat → Nat} {lv : List (Option Value)} {i : Nat} {v : Value} (h : lv[i]? = some (some v)) : (i, tk_v ad v) ∈ tk_pr ad lv :=
  List.mem_filterMap.mpr ⟨i, List.mem_range.mpr (List.getElem?_eq_some_iff.mp h).1, by rw [h]⟩
theorem tk_pr_of {ad : Nat → Nat} {lv : List (Option Value)} {q : Nat × Value} (h : q ∈ tk_pr ad lv) : ∃ v, lv[q.1]? = some (some v) ∧ q.2 = tk_v ad v := by
  obtain ⟨i, -, hi⟩ := List.mem_filterMap.mp h
  cases ho : lv[i]? with
  | none => rw [ho] at hi; cases hi
  | some o =>
    cases o with
    | none => rw [ho] at hi; cases hi
    | some v =>
      rw [ho] at hi
      cases hi
      exact ⟨v, ho, rfl⟩
theorem tk_L.has {ad : Nat → Nat} {ls : Array Slot} {nL : Nat} {lv : List (Option Value)} (h : tk_L ad ls nL lv) : lv_has ls nL (tk_pr ad lv) := by
  refine ⟨h.1, h.2.1, fun q hq => ?_⟩
  obtain ⟨v, h1, h2⟩ := tk_pr_of hq
  rw [h2]
  exact h.2.2 q.1 v h1
theorem tk_cat (ad : Nat → Nat) (v : Value) : (tk_v ad v).category = v.category := by cases v <;> rfl
/-- the local ahead of i isn't the first half of a long -/
def tk_p1 (o : Option Value) : Bool := match o with
  | some v => v.category == 1
  | none => true
def tk_pc (lv : List (Option Value)) (i : Nat) : Bool := match i with
  | 0 => true
  | j + 1 => match lv[j]? with
    | some o => tk_p1 o
    | none => true
theorem tk_pc_at {lv : List (Option Value)} {i j : Nat} {u : Value} (h : tk_pc lv i = true) (hj : j + 1 = i) (hu : lv[j]? = some (some u)) : u.category = 1 := by
  subst hj
  simp only [tk_pc, hu, tk_p1, beq_iff_eq] at h
  exact h
theorem tk_L.st1 {ad : Nat → Nat} {ls : Array Slot} {nL i : Nat} {lv : List (Option Value)} {v : Value} (hp : tk_pc lv i = true)
    (h : lv_has ls nL ((i, tk_v ad v) :: (tk_pr ad lv).filter (fun q => !(q.1 == i) && !(q.1 + 1 == i && q.2.category == 2)))) : tk_L ad ls nL (lv.set i (some v)) := by
  refine ⟨h.1, h.2.1, fun j u hj => ?_⟩
  rw [List.getElem?_set] at hj
  by_cases e : i = j
  · subst e
    rw [if_pos rfl] at hj
    by_cases hl : i < lv.length
    · rw [if_pos hl] at hj
      cases hj
      exact h.2.2 (i, tk_v ad v) List.mem_cons_self
    · rw [if_neg hl] at hj
      cases hj
  · rw [if_neg e] at hj
    refine h.2.2 (j, tk_v ad u) (List.mem_cons_of_mem _ (List.mem_filter.mpr ⟨tk_pr_in hj, ?_⟩))
    have h1 : (j == i) = false := by simpa using Ne.symm e
    by_cases h2 : j + 1 = i
    · have hc := tk_pc_at hp h2 hj
      simp [h1, tk_cat, hc]
    · simp [h1, h2]
theorem tk_L.st2 {ad : Nat → Nat} {ls : Array Slot} {nL i : Nat} {lv : List (Option Value)} {v : Value} (hp : tk_pc lv i = true)
    (h : lv_has ls nL ((i, tk_v ad v) :: (tk_pr ad lv).filter (fun q => !(q.1 == i) && (!(q.1 == i + 1) && !(q.1 + 1 == i && q.2.category == 2))))) : tk_L ad ls nL ((lv.set i (some v)).set (i + 1) none) := by
  refine ⟨h.1, h.2.1, fun j u hj => ?_⟩
  rw [List.getElem?_set] at hj
  by_cases e2 : i + 1 = j
  · subst e2
    rw [if_pos rfl] at hj
    split at hj <;> cases hj
  · rw [if_neg e2, List.getElem?_set] at hj
    by_cases e : i = j
    · subst e
      rw [if_pos rfl] at hj
      by_cases hl : i < lv.length
      · rw [if_pos hl] at hj
        cases hj
        exact h.2.2 (i, tk_v ad v) List.mem_cons_self
      · rw [if_neg hl] at hj
        cases hj
    · rw [if_neg e] at hj
      refine h.2.2 (j, tk_v ad u) (List.mem_cons_of_mem _ (List.mem_filter.mpr ⟨tk_pr_in hj, ?_⟩))
      have h1 : (j == i) = false := by simpa using Ne.symm e
      have h3 : (j == i + 1) = false := by simpa using Ne.symm e2
      by_cases h2 : j + 1 = i
      · have hc := tk_pc_at hp h2 hj
        simp [h1, h3, tk_cat, hc]
      · simp [h1, h2, h3]
/-- the locals at a method's entry -/
def tk_ent : List Value → List (Option Value)
  | [] => []
  | v :: vs => if v.category = 2 then some v :: none :: tk_ent vs else some v :: tk_ent vs
theorem tk_ent_at (ad : Nat → Nat) : ∀ (as : List Value) (i : Nat) (v : Value), (tk_ent as)[i]? = some (some v) → (lg_sl (as.map (tk_v ad)))[i]? = some (.val (tk_v ad v))
  | [], i, v, h => by simp [tk_ent] at h
  | a :: as, i, v, h => by
    have hs : lg_sl ((a :: as).map (tk_v ad)) = (if a.category = 2 then [Slot.val (tk_v ad a), Slot.second] else [Slot.val (tk_v ad a)]) ++ lg_sl (as.map (tk_v ad)) := by
      simp only [lg_sl, List.map_cons, List.flatMap_cons, tk_cat]
    rw [hs]
    by_cases hc : a.category = 2
    · simp only [tk_ent, hc, if_true] at h ⊢
      match i, h with
      | 0, h => simp at h; subst h; simp
      | 1, h => simp at h
      | i + 2, h => simpa using tk_ent_at ad as i v (by simpa using h)
    · simp only [tk_ent, hc, if_false] at h ⊢
      match i, h with
      | 0, h => simp at h; subst h; simp
      | i + 1, h => simpa using tk_ent_at ad as i v (by simpa using h)
