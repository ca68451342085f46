section TKH
variable {y : MethodName} {cc : ByteArray} {nL : Nat} {rt : Option FieldType} {hh : List (Nat × Nat × Nat × Nat)} {d kc ks : Nat} {ro : Nat → Option (Nat × (Nat → Int32))} {cells slots : Nat} {Q : tk_R → tk_W → Prop} {pc : Nat} {lv : List (Option Value)} {rest : List Value} {w : tk_W}
/-- own's pool entry 'index' is field k of the class ci -/
def tk_F (own : String) (index ci k : Nat) : Prop := ∃ (C : String) (T : u_T) (N : Nat), tk_cl[ci]? = some (C, T, N) ∧ k < N ∧ (∀ x ∈ u_ws C T N, x ∈ tk_tbl) ∧
  (Cond.fieldLink own index (T k).1 (T k).2.1 (T k).2.2.1 ∈ tk_tbl ∨ ∃ host, Cond.fieldLinkNest own index (T k).1 (T k).2.1 (T k).2.2.1 host ∈ tk_tbl)
/-- what a store into field k of the class ci needs: its type; 'fin': final -/
def tk_FP (ci k : Nat) (ty : FieldType) (fin : Bool) : Prop := ∃ (C : String) (T : u_T) (N : Nat) (ty0 : Nat → FieldType), tk_cl[ci]? = some (C, T, N) ∧ (∀ k, k < N → parseFieldDescriptor (T k).2.2.1 = some (ty0 k)) ∧ (∀ a, a < N → ∀ b, b < N → a ≠ b → (T a).2.1 ≠ (T b).2.1) ∧ (T k).2.2.2 = fin ∧ parseFieldDescriptor (T k).2.2.1 = some ty ∧ (T k).1 = C
theorem tk_get {index ci k a : Nat} {fs : List Value} {v : Value} (hd : decode cc pc = .ok (.getfield index, 3)) (hF : tk_F y.cls index ci k) (hw : w[a]? = some (.inr (ci, fs))) (hv : fs[k]? = some v)
    (kk : tk_T y cc nL rt hh d kc ks ro cells slots Q (pc + 3) lv (v :: rest) w) : tk_T y cc nL rt hh d kc ks ro cells slots Q pc lv (.ref a :: rest) w := by
  intro p l e s m args below meth c D dA A ad0 n0 I ad H locs ls g1 g2 g3 g4 g5 g6 g7
  obtain ⟨hx, hb, hml, hr, hlk, hnm, hown, hex, hts, hK, hA, hTh, hns, hst, hro⟩ := id I
  obtain ⟨C, T, N, h1, h2, h3, h4⟩ := hF
  have hv' : (fs.map (tk_v ad))[k]? = some (tk_v ad v) := by rw [List.getElem?_map, hv]; rfl
  rcases h4 with h4 | ⟨host, h4⟩
  · exact va_get (D := D) (ci := ci) (C := C) (T := T) (N := N) hx hb (hts.at args) h3 hown hK g3 a (tk_m_get hw) h1 k h2 (hts _ h4 args) (fun _ h9 => h9) hv' hd (kk p l e s m args below meth c D dA A ad0 n0 I ad H locs ls g1 g2 g3 g4 g5 g6 g7)
  · exact va_getN (D := D) (ci := ci) (C := C) (T := T) (N := N) hx hb (hts.at args) h3 hown hK g3 a (tk_m_get hw) h1 k h2 (hts _ h4 args) (fun _ h9 => h9) hv' hd (kk p l e s m args below meth c D dA A ad0 n0 I ad H locs ls g1 g2 g3 g4 g5 g6 g7)
theorem tk_narrow {ad : Nat → Nat} {ty : FieldType} {v : Value} (h : narrow ty v = v) : narrow ty (tk_v ad v) = tk_v ad v := by
  cases v with
  | ref k => cases ty <;> rfl
  | _ => exact h
theorem tk_fits {ad : Nat → Nat} {ty : FieldType} {v : Value} (h : fits ty v = true) : fits ty (tk_v ad v) = true := by
  cases v with
  | ref k => cases ty <;> first | rfl | exact h | (simp [fits] at h)
  | _ => exact h
theorem tk_set_e {dA : Nat → ClassId} {ad : Nat → Nat} {w : tk_W} {a ci k : Nat} {fs : List Value} {v : Value} : (tk_m dA ad w).set a (ad a, .inr (ci, (fs.map (tk_v ad)).set k (tk_v ad v))) = tk_m dA ad (w.set a (.inr (ci, fs.set k v))) := by
  have h : (fs.map (tk_v ad)).set k (tk_v ad v) = (fs.set k v).map (tk_v ad) := (List.map_set ..).symm
  rw [h]
  exact tk_m_set a (.inr (ci, fs.set k v))
theorem tk_okE_set {n ci k : Nat} {fs : List Value} {v : Value} (h : tk_okE n (.inr (ci, fs)) = true) (hv : tk_ok n v = true) : tk_okE n (.inr (ci, fs.set k v)) = true := by
  refine List.all_eq_true.mpr fun u hu => ?_
  rcases List.mem_or_eq_of_mem_set hu with h1 | h1
  · exact List.all_eq_true.mp h u h1
  · rw [h1]; exact hv
theorem tk_put {index ci k a : Nat} {fs : List Value} {v : Value} {ty : FieldType} (hd : decode cc pc = .ok (.putfield index, 3)) (hF : tk_F y.cls index ci k) (hG : tk_FP ci k ty false) (hw : w[a]? = some (.inr (ci, fs))) (hn : narrow ty v = v) (hf : fits ty v = true) (hk : k < fs.length) (ho : tk_ok w.length v = true)
    (kk : tk_T y cc nL rt hh d kc ks ro cells slots Q (pc + 3) lv rest (w.set a (.inr (ci, fs.set k v)))) : tk_T y cc nL rt hh d kc ks ro cells slots Q pc lv (v :: .ref a :: rest) w := by
  intro p l e s m args below meth c D dA A ad0 n0 I ad H locs ls g1 g2 g3 g4 g5 g6 g7
  obtain ⟨hx, hb, hml, hr, hlk, hnm, hown, hex, hts, hK, hA, hTh, hns, hst, hro⟩ := id I
  obtain ⟨C, T, N, h1, h2, h3, h4⟩ := hF
  obtain ⟨C', T', N', ty0, k1, k2, k3, k4, k5, -⟩ := hG
  cases Option.some.inj (h1.symm.trans k1)
  have hk' : k < (fs.map (tk_v ad)).length := by rw [List.length_map]; exact hk
  have hwf : tk_wf (w.set a (.inr (ci, fs.set k v))) := tk_wf_set g6 (tk_okE_set (g6 a _ hw) ho)
  have hlen : (w.set a (.inr (ci, fs.set k v))).length = w.length := List.length_set
  rcases h4 with h4 | ⟨host, h4⟩
  · refine va_put (D := D) (ci := ci) (ty := ty) (C := C) (T := T) (N := N) hx hb (hts.at args) h3 ty0 k2 k3 hown hK g3 g4 g5 a (tk_m_get hw) h1 k h2 (hts _ h4 args) (fun _ h9 => h9) k4 k5 (tk_narrow hn) (tk_fits hf) hk' hd (fun H1 locs1 e3 e4 e5 => ?_)
    rw [tk_set_e] at e3 e4
    exact kk p l e s m args below meth c D dA A ad0 n0 I ad H1 locs1 ls (by rw [hlen]; exact g1) (by rw [hlen]; exact g2) e3 e4 e5 hwf g7
  · refine va_putN (D := D) (ci := ci) (ty := ty) (C := C) (T := T) (N := N) hx hb (hts.at args) h3 ty0 k2 k3 hown hK g3 g4 g5 a (tk_m_get hw) h1 k h2 (hts _ h4 args) (fun _ h9 => h9) k4 k5 (tk_narrow hn) (tk_fits hf) hk' hd (fun H1 locs1 e3 e4 e5 => ?_)
    rw [tk_set_e] at e3 e4
    exact kk p l e s m args below meth c D dA A ad0 n0 I ad H1 locs1 ls (by rw [hlen]; exact g1) (by rw [hlen]; exact g2) e3 e4 e5 hwf g7
/-- .. by a link that crosses no nest -/
def tk_FF (own : String) (index ci k : Nat) : Prop := ∃ (C : String) (T : u_T) (N : Nat), tk_cl[ci]? = some (C, T, N) ∧ k < N ∧ (∀ x ∈ u_ws C T N, x ∈ tk_tbl) ∧ Cond.fieldLink own index (T k).1 (T k).2.1 (T k).2.2.1 ∈ tk_tbl ∧ C = own
theorem tk_putF {index ci k a : Nat} {fs : List Value} {v : Value} {ty : FieldType} (hd : decode cc pc = .ok (.putfield index, 3)) (hF : tk_FF y.cls index ci k) (hG : tk_FP ci k ty true) (hi : y.name = "<init>") (hw : w[a]? = some (.inr (ci, fs))) (hn : narrow ty v = v) (hf : fits ty v = true) (hk : k < fs.length) (ho : tk_ok w.length v = true)
    (kk : tk_T y cc nL rt hh d kc ks ro cells slots Q (pc + 3) lv rest (w.set a (.inr (ci, fs.set k v)))) : tk_T y cc nL rt hh d kc ks ro cells slots Q pc lv (v :: .ref a :: rest) w := by
  intro p l e s m args below meth c D dA A ad0 n0 I ad H locs ls g1 g2 g3 g4 g5 g6 g7
  obtain ⟨hx, hb, hml, hr, hlk, hnm, hown, hex, hts, hK, hA, hTh, hns, hst, hro⟩ := id I
  obtain ⟨C, T, N, h1, h2, h3, h4, h5⟩ := hF
  obtain ⟨C', T', N', ty0, k1, k2, k3, k4, k5, k6⟩ := hG
  cases Option.some.inj (h1.symm.trans k1)
  have hk' : k < (fs.map (tk_v ad)).length := by rw [List.length_map]; exact hk
  have hwf : tk_wf (w.set a (.inr (ci, fs.set k v))) := tk_wf_set g6 (tk_okE_set (g6 a _ hw) ho)
  have hlen : (w.set a (.inr (ci, fs.set k v))).length = w.length := List.length_set
  refine va_putF (D := D) (ci := ci) (ty := ty) (C := C) (T := T) (N := N) hx hb (hts.at args) h3 ty0 k2 k3 hown hK g3 g4 g5 a (tk_m_get hw) h1 k h2 (hts _ h4 args) (fun _ h9 => h9) k4 (hnm.trans hi) (k6.trans h5) k5 (tk_narrow hn) (tk_fits hf) hk' hd (fun H1 locs1 e3 e4 e5 => ?_)
  rw [tk_set_e] at e3 e4
  exact kk p l e s m args below meth c D dA A ad0 n0 I ad H1 locs1 ls (by rw [hlen]; exact g1) (by rw [hlen]; exact g2) e3 e4 e5 hwf g7
/-! arrays of ints and longs -/
theorem tk_K (dA : Nat → ClassId) (t : Nat) (ty : FieldType) (h : tk_ty[t]? = some ty) : (tk_tys dA)[t]? = some (dA t, ty) := by
  match t, h with
  | 0, h => cases h; rfl
  | 1, h => cases h; rfl
  | 2, h => cases h; rfl
  | 3, h => cases h; rfl
  | t + 4, h => simp [tk_ty] at h
theorem tk_iald {a n : Nat} {f : Nat → Int32} {i : Int32} (j : Nat) (hd : decode cc pc = .ok (.iaload, 1)) (hw : w[a]? = some (.inl (0, n, .inl f))) (hi : i = nI j) (hj : j < n) (hn : n < 2 ^ 31)
    (kk : tk_T y cc nL rt hh d kc ks ro cells slots Q (pc + 1) lv (.int (f j) :: rest) w) : tk_T y cc nL rt hh d kc ks ro cells slots Q pc lv (.int i :: .ref a :: rest) w := by
  intro p l e s m args below meth c D dA A ad0 n0 I ad H locs ls g1 g2 g3 g4 g5 g6 g7
  subst hi
  have h9 : (nI j).toNatClampNeg = j := nI_clamp (by omega)
  refine va_iald (D := D) I.1 I.2.1 I.2.2.2.2.2.2.2.2.2.1 g3 a 0 (tk_m_get hw) rfl (vp_in_nI hj hn) hd ?_
  rw [h9]
  exact kk p l e s m args below meth c D dA A ad0 n0 I ad H locs ls g1 g2 g3 g4 g5 g6 g7
theorem tk_lald {a n : Nat} {f : Nat → Int64} {i : Int32} (j : Nat) (hd : decode cc pc = .ok (.laload, 1)) (hw : w[a]? = some (.inl (1, n, .inr (.inl f)))) (hi : i = nI j) (hj : j < n) (hn : n < 2 ^ 31)
    (kk : tk_T y cc nL rt hh d kc ks ro cells slots Q (pc + 1) lv (.long (f j) :: rest) w) : tk_T y cc nL rt hh d kc ks ro cells slots Q pc lv (.int i :: .ref a :: rest) w := by
  intro p l e s m args below meth c D dA A ad0 n0 I ad H locs ls g1 g2 g3 g4 g5 g6 g7
  subst hi
  have h9 : (nI j).toNatClampNeg = j := nI_clamp (by omega)
  refine va_lald (D := D) I.1 I.2.1 I.2.2.2.2.2.2.2.2.2.1 g3 a 1 (tk_m_get hw) rfl (vp_in_nI hj hn) hd ?_
  rw [h9]
  exact kk p l e s m args below meth c D dA A ad0 n0 I ad H locs ls g1 g2 g3 g4 g5 g6 g7
theorem tk_iast {a n : Nat} {f : Nat → Int32} {i x : Int32} (j : Nat) (hd : decode cc pc = .ok (.iastore, 1)) (hw : w[a]? = some (.inl (0, n, .inl f))) (hi : i = nI j) (hj : j < n) (hn : n < 2 ^ 31)
    (kk : tk_T y cc nL rt hh d kc ks ro cells slots Q (pc + 1) lv rest (w.set a (.inl (0, n, .inl (upd f j x))))) : tk_T y cc nL rt hh d kc ks ro cells slots Q pc lv (.int x :: .int i :: .ref a :: rest) w := by
  intro p l e s m args below meth c D dA A ad0 n0 I ad H locs ls g1 g2 g3 g4 g5 g6 g7
  subst hi
  have h9 : (nI j).toNatClampNeg = j := nI_clamp (by omega)
  refine va_iast (D := D) I.1 I.2.1 I.2.2.2.2.2.2.2.2.2.1 g3 g4 g5 a 0 (tk_m_get hw) rfl (vp_in_nI hj hn) hd (fun H1 locs1 e3 e4 e5 => ?_)
  rw [h9] at e3 e4
  have hs := tk_m_set (dA := dA) (ad := ad) (w := w) a (.inl (0, n, .inl (upd f j x)))
  have e3' : va_P D tk_cl (tk_m dA ad (w.set a (.inl (0, n, .inl (upd f j x))))) H1 := by rw [← hs]; exact e3
  have e4' : va_D A (tk_m dA ad (w.set a (.inl (0, n, .inl (upd f j x))))) := by rw [← hs]; exact e4
  exact kk p l e s m args below meth c D dA A ad0 n0 I ad H1 locs1 ls (by rw [List.length_set]; exact g1) (by rw [List.length_set]; exact g2) e3' e4' e5 (tk_wf_set g6 rfl) g7
theorem tk_last {a n : Nat} {f : Nat → Int64} {i : Int32} {x : Int64} (j : Nat) (hd : decode cc pc = .ok (.lastore, 1)) (hw : w[a]? = some (.inl (1, n, .inr (.inl f)))) (hi : i = nI j) (hj : j < n) (hn : n < 2 ^ 31)
    (kk : tk_T y cc nL rt hh d kc ks ro cells slots Q (pc + 1) lv rest (w.set a (.inl (1, n, .inr (.inl (vp_updL f j x)))))) : tk_T y cc nL rt hh d kc ks ro cells slots Q pc lv (.long x :: .int i :: .ref a :: rest) w := by
  intro p l e s m args below meth c D dA A ad0 n0 I ad H locs ls g1 g2 g3 g4 g5 g6 g7
  subst hi
  have h9 : (nI j).toNatClampNeg = j := nI_clamp (by omega)
  refine va_last (D := D) I.1 I.2.1 I.2.2.2.2.2.2.2.2.2.1 g3 g4 g5 a 1 (tk_m_get hw) rfl (vp_in_nI hj hn) hd (fun H1 locs1 e3 e4 e5 => ?_)
  rw [h9] at e3 e4
  have hs := tk_m_set (dA := dA) (ad := ad) (w := w) a (.inl (1, n, .inr (.inl (vp_updL f j x))))
  have e3' : va_P D tk_cl (tk_m dA ad (w.set a (.inl (1, n, .inr (.inl (vp_updL f j x)))))) H1 := by rw [← hs]; exact e3
  have e4' : va_D A (tk_m dA ad (w.set a (.inl (1, n, .inr (.inl (vp_updL f j x)))))) := by rw [← hs]; exact e4
  exact kk p l e s m args below meth c D dA A ad0 n0 I ad H1 locs1 ls (by rw [List.length_set]; exact g1) (by rw [List.length_set]; exact g2) e3' e4' e5 (tk_wf_set g6 rfl) g7
theorem tk_alen {a t : Nat} {ty : FieldType} {x : vp_A} {v : Int32} (hd : decode cc pc = .ok (.arraylength, 1)) (hw : w[a]? = some (.inl (t, x))) (ht : tk_ty[t]? = some ty) (hv : Int32.ofNat x.1 = v)
    (kk : tk_T y cc nL rt hh d kc ks ro cells slots Q (pc + 1) lv (.int v :: rest) w) : tk_T y cc nL rt hh d kc ks ro cells slots Q pc lv (.ref a :: rest) w := by
  intro p l e s m args below meth c D dA A ad0 n0 I ad H locs ls g1 g2 g3 g4 g5 g6 g7
  exact va_alen (D := D) I.1 I.2.1 I.2.2.2.2.2.2.2.2.2.1 g3 a t (tk_m_get hw) (tk_K dA t ty ht) hv hd (kk p l e s m args below meth c D dA A ad0 n0 I ad H locs ls g1 g2 g3 g4 g5 g6 g7)
/-! the script: an array that nobody writes -/
theorem tk_sld {k L : Nat} {xs : Nat → Int32} {i : Int32} (j : Nat) (hd : decode cc pc = .ok (.iaload, 1)) (hr : ro k = some (L, xs)) (hk : w.length ≤ k) (hi : i = nI j) (hj : j < L) (hn : L < 2 ^ 31)
    (kk : tk_T y cc nL rt hh d kc ks ro cells slots Q (pc + 1) lv (.int (xs j) :: rest) w) : tk_T y cc nL rt hh d kc ks ro cells slots Q pc lv (.int i :: .ref k :: rest) w := by
  intro p l e s m args below meth c D dA A ad0 n0 I ad H locs ls g1 g2 g3 g4 g5 g6 g7
  subst hi
  have h9 : (nI j).toNatClampNeg = j := nI_clamp (by omega)
  obtain ⟨q1, q2, q3⟩ := I.2.2.2.2.2.2.2.2.2.2.2.2.2.2 k L xs hr
  have ha : ad k = ad0 k := g1 k (Or.inr hk)
  show W p l e (tk_rm d kc ks) s m args below meth c H locs cells slots _ (F0 m pc ls (.int (nI j) :: .ref (ad k) :: rest.map (tk_v ad)))
  rw [ha]
  refine va_sld I.1 I.2.1 q1 q2 q3 g5 (vp_in_nI hj hn) hd ?_
  rw [h9]
  exact kk p l e s m args below meth c D dA A ad0 n0 I ad H locs ls g1 g2 g3 g4 g5 g6 g7
theorem tk_slen {k L : Nat} {xs : Nat → Int32} (hd : decode cc pc = .ok (.arraylength, 1)) (hr : ro k = some (L, xs)) (hk : w.length ≤ k)
    (kk : tk_T y cc nL rt hh d kc ks ro cells slots Q (pc + 1) lv (.int (nI L) :: rest) w) : tk_T y cc nL rt hh d kc ks ro cells slots Q pc lv (.ref k :: rest) w := by
  intro p l e s m args below meth c D dA A ad0 n0 I ad H locs ls g1 g2 g3 g4 g5 g6 g7
  obtain ⟨q1, q2, q3⟩ := I.2.2.2.2.2.2.2.2.2.2.2.2.2.2 k L xs hr
  have ha : ad k = ad0 k := g1 k (Or.inr hk)
  show W p l e (tk_rm d kc ks) s m args below meth c H locs cells slots _ (F0 m pc ls (.ref (ad k) :: rest.map (tk_v ad)))
  rw [ha]
  exact va_slen I.1 I.2.1 q1 q2 q3 g5 hd (kk p l e s m args below meth c D dA A ad0 n0 I ad H locs ls g1 g2 g3 g4 g5 g6 g7)
/-! a method's ends -/
theorem tk_end {p : Program} {l : Launch} {e : Env} {s : State} {m : MethodId} {args : Array Value} {below : List Frame} {meth : Method} {c : Code} {D : va_G} {dA : Nat → ClassId} {A : Nat → Prop} {ad0 : Nat → Nat} {n0 : Nat} {R : Room} {H : Heap} {locs : List Loc} {g : JFrame}
    {Qc : Array Value → State → Outcome → State → Prop} (h : ∀ o t, Qc args s o t → va_F A s t ∧ ∃ (r : tk_R) (ad : Nat → Nat) (w : tk_W), Q r w ∧ tk_Out ad s t o r ∧ tk_Ag n0 w.length ad0 ad ∧ n0 ≤ w.length ∧ va_P D tk_cl (tk_m dA ad w) t.heap ∧ va_D A (tk_m dA ad w) ∧ tk_wf w)
    (k : W p l e R s m args below meth c H locs cells slots (MQ below Qc args s kc ks A) g) : W p l e R s m args below meth c H locs cells slots (tk_Z below D dA A ad0 n0 s kc ks Q) g := by
  intro T hT X
  obtain ⟨t, a1, o, b1, b2, b3, L, ⟨-, f2, f3⟩, b5⟩ := k T hT X
  obtain ⟨h1, h2⟩ := h o t b3
  exact ⟨t, a1, o, b1, b2, ⟨f2, L, f3, b5⟩, h1, h2⟩
theorem tk_ireturn {x : Int32} {ty : FieldType} (hd : decode cc pc = .ok (.ireturn, 1)) (hr : rt = some ty) (hn : narrow ty (.int x) = .int x) (hc : cells ≤ kc) (hs : slots ≤ ks) (q : Q (.inl (some (.int x))) w) : tk_T y cc nL rt hh d kc ks ro cells slots Q pc lv [.int x] w := by
  intro p l e s m args below meth c D dA A ad0 n0 I ad H locs ls g1 g2 g3 g4 g5 g6 g7
  refine W.widen hc hs (tk_end (Qc := fun _ s' o t => t.heap = H ∧ o = .returned (some (.int x))) ?_ (W.zret (ty := ty) I.1 I.2.1 (I.2.2.2.1.trans hr) hn (fun t ht _ => ⟨ht, rfl⟩) g5.2.2 hd I.2.2.2.2.1))
  rintro o t ⟨ht, rfl⟩
  exact ⟨g5.F ht, .inl (some (.int x)), ad, w, q, rfl, g1, g2, by rw [ht]; exact g3, g4, g6⟩
theorem tk_lreturn {x : Int64} (hd : decode cc pc = .ok (.lreturn, 1)) (hr : rt = some .long) (hc : cells ≤ kc) (hs : slots ≤ ks) (q : Q (.inl (some (.long x))) w) : tk_T y cc nL rt hh d kc ks ro cells slots Q pc lv [.long x] w := by
  intro p l e s m args below meth c D dA A ad0 n0 I ad H locs ls g1 g2 g3 g4 g5 g6 g7
  refine W.widen hc hs (tk_end (Qc := fun _ s' o t => t.heap = H ∧ o = .returned (some (.long x))) ?_ (W.lret I.1 I.2.1 (I.2.2.2.1.trans hr) (fun t ht _ => ⟨ht, rfl⟩) g5.2.2 hd I.2.2.2.2.1))
  rintro o t ⟨ht, rfl⟩
  exact ⟨g5.F ht, .inl (some (.long x)), ad, w, q, rfl, g1, g2, by rw [ht]; exact g3, g4, g6⟩
theorem tk_return (hd : decode cc pc = .ok (.return_, 1)) (hr : rt = none) (hc : cells ≤ kc) (hs : slots ≤ ks) (q : Q (.inl none) w) : tk_T y cc nL rt hh d kc ks ro cells slots Q pc lv [] w := by
  intro p l e s m args below meth c D dA A ad0 n0 I ad H locs ls g1 g2 g3 g4 g5 g6 g7
  refine W.widen hc hs (tk_end (Qc := fun _ s' o t => t.heap = H ∧ o = .returned none) ?_ (W.vret I.1 I.2.1 (I.2.2.2.1.trans hr) (fun t ht _ => ⟨ht, rfl⟩) g5.2.2 hd I.2.2.2.2.1))
  rintro o t ⟨ht, rfl⟩
  exact ⟨g5.F ht, .inl none, ad, w, q, rfl, g1, g2, by rw [ht]; exact g3, g4, g6⟩
/-! Object.<init>, Math -/
theorem tk_cs {ad : Nat → Nat} (st : List Value) : ((st.map (tk_v ad)).map fun v => v.category).sum = (st.map fun v => v.category).sum := by
  rw [List.map_map]
  congr 1
  exact List.map_congr_left (fun v _ => tk_cat ad v)
theorem tk_objInit {idx a : Nat} (hd : decode cc pc = .ok (.invokespecial idx, 3)) (h1 : Cond.methodLink y.cls idx Lib.objectInit ∈ tk_tbl) (h2 : Cond.instanceMethod Lib.objectInit ∈ tk_tbl) (h3 : Cond.code Lib.objectInit ⟨#[0xb1]⟩ 1 none ∈ tk_tbl) (hr : (rest.map fun v => v.category).sum ≤ 8)
    (kk : tk_T y cc nL rt hh d kc ks ro cells slots Q (pc + 3) lv rest w) : tk_T y cc nL rt hh d kc ks ro cells slots Q pc lv (.ref a :: rest) w := by
  intro p l e s m args below meth c D dA A ad0 n0 I ad H locs ls g1 g2 g3 g4 g5 g6 g7
  obtain ⟨hx, hb, hml, hr', hlk, hnm, hown, hex, hts, hK, hA, hTh, hns, hst, hro⟩ := id I
  refine W.objInit hx hb hown (hts _ h1 args) (hts _ h2 args) (hts _ h3 args) rfl (by rw [hml]; exact g7.1) rfl hd (by show 1 ≤ d + 8; omega) (by show 2 * 0 + _ + 12 ≤ d * 60 + 240; rw [tk_cs]; omega) ?_
  exact kk p l e s m args below meth c D dA A ad0 n0 I ad H locs ls g1 g2 g3 g4 g5 g6 g7
theorem tk_mmin {idx : Nat} {x z : Int32} (hd : decode cc pc = .ok (.invokestatic idx, 3)) (h1 : Cond.methodLink y.cls idx Lib.Math.min.name ∈ tk_tbl) (h2 : Cond.static Lib.Math.min.name ∈ tk_tbl) (h3 : Cond.initialized "java/lang/Math" ∈ tk_tbl) (h4 : Cond.code Lib.Math.min.name Lib.Math.min.code 2 (some .int) ∈ tk_tbl) (hr : (rest.map fun v => v.category).sum ≤ 8) (hc : cells ≤ kc) (hs : slots ≤ ks)
    (kk : tk_T y cc nL rt hh d kc ks ro cells slots Q (pc + 3) lv (.int (if z < x then z else x) :: rest) w) : tk_T y cc nL rt hh d kc ks ro cells slots Q pc lv (.int z :: .int x :: rest) w := by
  intro p l e s m args below meth c D dA A ad0 n0 I ad H locs ls g1 g2 g3 g4 g5 g6 g7
  obtain ⟨hx, hb, hml, hr', hlk, hnm, hown, hex, hts, hK, hA, hTh, hns, hst, hro⟩ := id I
  exact va_mmin hx hb (hml.trans g7.1.symm) hown (hts _ h1 args) (hts _ h2 args) (hts _ h3 args) (hts _ h4 args) (by show 1 ≤ d + 8; omega) (by show _ + 13 ≤ d * 60 + 240; rw [tk_cs]; omega) hc hs hd (kk p l e s m args below meth c D dA A ad0 n0 I ad H locs ls g1 g2 g3 g4 g5 g6 g7)
theorem tk_mmax {idx : Nat} {x z : Int32} (hd : decode cc pc = .ok (.invokestatic idx, 3)) (h1 : Cond.methodLink y.cls idx Lib.Math.max.name ∈ tk_tbl) (h2 : Cond.static Lib.Math.max.name ∈ tk_tbl) (h3 : Cond.initialized "java/lang/Math" ∈ tk_tbl) (h4 : Cond.code Lib.Math.max.name Lib.Math.max.code 2 (some .int) ∈ tk_tbl) (hr : (rest.map fun v => v.category).sum ≤ 8) (hc : cells ≤ kc) (hs : slots ≤ ks)
    (kk : tk_T y cc nL rt hh d kc ks ro cells slots Q (pc + 3) lv (.int (if x < z then z else x) :: rest) w) : tk_T y cc nL rt hh d kc ks ro cells slots Q pc lv (.int z :: .int x :: rest) w := by
  intro p l e s m args below meth c D dA A ad0 n0 I ad H locs ls g1 g2 g3 g4 g5 g6 g7
  obtain ⟨hx, hb, hml, hr', hlk, hnm, hown, hex, hts, hK, hA, hTh, hns, hst, hro⟩ := id I
  exact va_mmax hx hb (hml.trans g7.1.symm) hown (hts _ h1 args) (hts _ h2 args) (hts _ h3 args) (hts _ h4 args) (by show 1 ≤ d + 8; omega) (by show _ + 13 ≤ d * 60 + 240; rw [tk_cs]; omega) hc hs hd (kk p l e s m args below meth c D dA A ad0 n0 I ad H locs ls g1 g2 g3 g4 g5 g6 g7)
theorem tk_mminL {idx : Nat} {x z : Int64} (hd : decode cc pc = .ok (.invokestatic idx, 3)) (h1 : Cond.methodLink y.cls idx Lib.MathLoose.min_long.x ∈ tk_tbl) (h2 : Cond.static Lib.MathLoose.min_long.x ∈ tk_tbl) (h3 : Cond.initialized "java/lang/Math" ∈ tk_tbl) (h4 : Cond.code Lib.MathLoose.min_long.x Lib.MathLoose.min_long.code 4 (some .long) ∈ tk_tbl) (hr : (rest.map fun v => v.category).sum ≤ 8) (hc : cells ≤ kc) (hs : slots ≤ ks)
    (kk : tk_T y cc nL rt hh d kc ks ro cells slots Q (pc + 3) lv (.long (if z < x then z else x) :: rest) w) : tk_T y cc nL rt hh d kc ks ro cells slots Q pc lv (.long z :: .long x :: rest) w := by
  intro p l e s m args below meth c D dA A ad0 n0 I ad H locs ls g1 g2 g3 g4 g5 g6 g7
  obtain ⟨hx, hb, hml, hr', hlk, hnm, hown, hex, hts, hK, hA, hTh, hns, hst, hro⟩ := id I
  exact va_mmin_long hx hb (hml.trans g7.1.symm) hown (hts _ h1 args) (hts _ h2 args) (hts _ h3 args) (hts _ h4 args) (by show 1 ≤ d + 8; omega) (by show _ + 15 ≤ d * 60 + 240; rw [tk_cs]; omega) hc hs hd (kk p l e s m args below meth c D dA A ad0 n0 I ad H locs ls g1 g2 g3 g4 g5 g6 g7)
theorem tk_mmaxL {idx : Nat} {x z : Int64} (hd : decode cc pc = .ok (.invokestatic idx, 3)) (h1 : Cond.methodLink y.cls idx Lib.MathLoose.max_long.x ∈ tk_tbl) (h2 : Cond.static Lib.MathLoose.max_long.x ∈ tk_tbl) (h3 : Cond.initialized "java/lang/Math" ∈ tk_tbl) (h4 : Cond.code Lib.MathLoose.max_long.x Lib.MathLoose.max_long.code 4 (some .long) ∈ tk_tbl) (hr : (rest.map fun v => v.category).sum ≤ 8) (hc : cells ≤ kc) (hs : slots ≤ ks)
    (kk : tk_T y cc nL rt hh d kc ks ro cells slots Q (pc + 3) lv (.long (if z < x then x else z) :: rest) w) : tk_T y cc nL rt hh d kc ks ro cells slots Q pc lv (.long z :: .long x :: rest) w := by
  intro p l e s m args below meth c D dA A ad0 n0 I ad H locs ls g1 g2 g3 g4 g5 g6 g7
  obtain ⟨hx, hb, hml, hr', hlk, hnm, hown, hex, hts, hK, hA, hTh, hns, hst, hro⟩ := id I
  exact va_mmax_long hx hb (hml.trans g7.1.symm) hown (hts _ h1 args) (hts _ h2 args) (hts _ h3 args) (hts _ h4 args) (by show 1 ≤ d + 8; omega) (by show _ + 15 ≤ d * 60 + 240; rw [tk_cs]; omega) hc hs hd (kk p l e s m args below meth c D dA A ad0 n0 I ad H locs ls g1 g2 g3 g4 g5 g6 g7)
/-! new objects, new arrays -/
def tk_fr (n : Nat) (v : Value) : Bool := match v with
  | .ref k => !(k == n)
  | _ => true
theorem tk_v_fr {ad : Nat → Nat} {n q : Nat} {v : Value} (h : tk_fr n v = true) : tk_v (tk_up ad n q) v = tk_v ad v := by
  cases v with
  | ref k =>
    have hk : ¬ k = n := by simpa [tk_fr] using h
    show Value.ref (if k = n then q else ad k) = .ref (ad k)
    rw [if_neg hk]
  | _ => rfl
def tk_frL (n : Nat) (lv : List (Option Value)) : Bool := lv.all (fun o => match o with
  | some v => tk_fr n v
  | none => true)
theorem tk_map_fr {ad : Nat → Nat} {n q : Nat} {st : List Value} (h : st.all (tk_fr n) = true) : st.map (tk_v (tk_up ad n q)) = st.map (tk_v ad) :=
  List.map_congr_left (fun v hv => tk_v_fr (List.all_eq_true.mp h v hv))
theorem tk_L.fr {ad : Nat → Nat} {n q nL : Nat} {ls : Array Slot} {lv : List (Option Value)} (h : tk_L ad ls nL lv) (hf : tk_frL n lv = true) : tk_L (tk_up ad n q) ls nL lv := by
  refine ⟨h.1, h.2.1, fun i v hi => ?_⟩
  have h1 := List.all_eq_true.mp hf (some v) (List.mem_of_getElem? hi)
  rw [tk_v_fr h1]
  exact h.2.2 i v hi
/-- own's pool entry 'index' is the class ci, of N fields, whose defaults are fs -/
def tk_Nw (own : String) (index ci N : Nat) (fs : List Value) : Prop := ∃ (C : String) (T : u_T) (ty : Nat → FieldType), tk_cl[ci]? = some (C, T, N) ∧ (∀ x ∈ u_ws C T N, x ∈ tk_tbl) ∧ (∀ k, k < N → parseFieldDescriptor (T k).2.2.1 = some (ty k)) ∧ Cond.classLink own index C ∈ tk_tbl ∧ Cond.instantiable C N ∈ tk_tbl ∧ Cond.initialized C ∈ tk_tbl ∧ (∀ j, j < N → defaultValue (ty j) = vp_V fs j)
theorem tk_new {index ci N n : Nat} {fs : List Value} (hd : decode cc pc = .ok (.new index, 3)) (hN : tk_Nw y.cls index ci N fs) (hn : w.length = n) (hfs : fs.all (fun v => match v with | .ref _ => false | _ => true) = true) (hst0 : rest.all (tk_fr n) = true) (hlv0 : tk_frL n lv = true) (hc : cells + 1 ≤ kc) (hs : slots + N ≤ ks)
    (kk : tk_T y cc nL rt hh d kc ks ro (cells + 1) (slots + N) Q (pc + 3) lv (.ref n :: rest) (w ++ [.inr (ci, fs)])) : tk_T y cc nL rt hh d kc ks ro cells slots Q pc lv rest w := by
  intro p l e s m args below meth c D dA A ad0 n0 I ad H locs ls g1 g2 g3 g4 g5 g6 g7
  obtain ⟨hx, hb, hml, hr', hlk, hnm, hown, hex, hts, hK, hA, hTh, hns, hst, hro⟩ := id I
  obtain ⟨C, T, ty, h1, h2, h3, h4, h5, h6, h7⟩ := hN
  subst hn
  have hok : tk_okE w.length (.inr (ci, fs)) = true := by
    refine List.all_eq_true.mpr fun v hv => ?_
    have := List.all_eq_true.mp hfs v hv
    cases v <;> first | rfl | (simp at this)
  have hfm : fs.map (tk_v ad) = fs := by
    have h9 : fs.map (tk_v ad) = fs.map id := List.map_congr_left (fun v hv => by
      have := List.all_eq_true.mp hfs v hv
      cases v <;> first | rfl | (simp at this))
    rw [h9, List.map_id]
  refine va_new (D := D) (ci := ci) (fs := fs) (C := C) (T := T) (N := N) hx hb (hts.at args) h2 ty h3 hown (hts _ h4 args) (hts _ h5 args) (hts _ h6 args) hK g3 g4 g5 hA h1 h7 hc hs hd (fun q H1 e3 e4 e5 => ?_)
  have hpush := tk_m_push (dA := dA) (ad := ad) (w := w) (x := .inr (ci, fs)) (q := q) g6 hok
  have he : (q, tk_e dA ad (.inr (ci, fs))) = ((q, .inr (ci, fs)) : Nat × va_E) := by
    show (q, (Sum.inr (ci, fs.map (tk_v ad)) : va_E)) = _
    rw [hfm]
  rw [he] at hpush
  have hl : (w ++ [(.inr (ci, fs) : tk_E)]).length = w.length + 1 := by simp
  have hg1 : tk_Ag n0 (w ++ [(.inr (ci, fs) : tk_E)]).length ad0 (tk_up ad w.length q) := by
    intro k hk
    rw [hl] at hk
    show (if k = w.length then q else ad k) = ad0 k
    rw [if_neg (by omega)]
    exact g1 k (by omega)
  have kk' := kk p l e s m args below meth c D dA A ad0 n0 I (tk_up ad w.length q) H1 locs ls hg1 (by rw [hl]; omega) (by rw [hpush]; exact e3) (by rw [hpush]; exact e4) e5 (tk_wf_push g6 hok) (g7.fr hlv0)
  have hs2 : (Value.ref w.length :: rest).map (tk_v (tk_up ad w.length q)) = .ref q :: rest.map (tk_v ad) := by
    rw [List.map_cons, tk_map_fr hst0]
    show Value.ref (if w.length = w.length then q else ad w.length) :: _ = _
    rw [if_pos rfl]
  rw [hs2] at kk'
  exact kk'
theorem tk_newa {t n N : Nat} {i : Int32} {aty : ArrayType} {ty : FieldType} {a0 : vp_A} (hd : decode cc pc = .ok (.newarray aty, 2)) (hA : Cond.arrayClass (newarray.typeOf aty) ∈ tk_tbl) (hty : newarray.typeOf aty = ty) (ht : tk_ty[t]? = some ty) (ha : ∀ cA : ClassId, vp_cell cA a0 = arrV cA N (fun _ => defaultValue ty)) (hi : i = nI N) (hN : N < 100000) (hn : w.length = n) (hst0 : rest.all (tk_fr n) = true) (hlv0 : tk_frL n lv = true) (hc : cells + 1 ≤ kc) (hs : slots + N ≤ ks)
    (kk : tk_T y cc nL rt hh d kc ks ro (cells + 1) (slots + N) Q (pc + 2) lv (.ref n :: rest) (w ++ [.inl (t, a0)])) : tk_T y cc nL rt hh d kc ks ro cells slots Q pc lv (.int i :: rest) w := by
  intro p l e s m args below meth c D dA A ad0 n0 I ad H locs ls g1 g2 g3 g4 g5 g6 g7
  obtain ⟨hx, hb, hml, hr', hlk, hnm, hown, hex, hts, hK, hAa, hTh, hns, hst, hro⟩ := id I
  subst hn
  subst hi
  have hb9 : N * componentBytes ty ≤ 536870912 := by
    have : componentBytes ty ≤ 8 := by cases ty <;> first | decide | (show _ ≤ 8; simp [componentBytes]) | simp [componentBytes]
    calc N * componentBytes ty ≤ 100000 * 8 := Nat.mul_le_mul (Nat.le_of_lt hN) this
      _ ≤ 536870912 := by decide
  refine va_newa (D := D) hx hb (hts _ hA args) hty hK g3 g4 g5 hAa ha (nI_pos (by omega)) (nI_clamp (by omega)) hb9 hc hs hd (fun q cA H1 eK e3 e4 e5 => ?_)
  have hcA : cA = dA t := by
    have h1 := (eK.2 (tk_tys dA).length (cA, ty) (by simp)).2
    have h2 := (hK.2 t (dA t, ty) (tk_K dA t ty ht)).2
    have h3 : ty = .int ∨ ty = .long ∨ ty = .boolean ∨ ty = .byte := by
      match t, ht with
      | 0, h => cases h; exact Or.inl rfl
      | 1, h => cases h; exact Or.inr (Or.inl rfl)
      | 2, h => cases h; exact Or.inr (Or.inr (Or.inl rfl))
      | 3, h => cases h; exact Or.inr (Or.inr (Or.inr rfl))
      | t + 4, h => simp [tk_ty] at h
    rcases h3 with rfl | rfl | rfl | rfl <;> exact Option.some.inj (h1.symm.trans h2)
  subst hcA
  have hpush := tk_m_push (dA := dA) (ad := ad) (w := w) (x := .inl (t, a0)) (q := q) g6 rfl
  have hl : (w ++ [(.inl (t, a0) : tk_E)]).length = w.length + 1 := by simp
  have hg1 : tk_Ag n0 (w ++ [(.inl (t, a0) : tk_E)]).length ad0 (tk_up ad w.length q) := by
    intro k hk
    rw [hl] at hk
    show (if k = w.length then q else ad k) = ad0 k
    rw [if_neg (by omega)]
    exact g1 k (by omega)
  have kk' := kk p l e s m args below meth c D dA A ad0 n0 I (tk_up ad w.length q) H1 locs ls hg1 (by rw [hl]; omega) (by rw [hpush]; exact e3) (by rw [hpush]; exact e4) e5 (tk_wf_push g6 rfl) (g7.fr hlv0)
  have hs2 : (Value.ref w.length :: rest).map (tk_v (tk_up ad w.length q)) = .ref q :: rest.map (tk_v ad) := by
    rw [List.map_cons, tk_map_fr hst0]
    show Value.ref (if w.length = w.length then q else ad w.length) :: _ = _
    rw [if_pos rfl]
  rw [hs2] at kk'
  exact kk'
end TKH
