/-! ===== the state: the cells of a ChargePlans at the places 0 to 28; behind them t ===== -/
abbrev Ar : Type := Nat → Int32
abbrev sG : Type := Int32 × Ar × Ar × Ar × Ar × Ar × Ar
abbrev sH : Type := Int32 × Ar × Ar × Ar × Ar × Ar × Ar × Ar
abbrev sS : Type := Int32 × Ar × Ar × Ar
abbrev sP : Type := sS × Ar × Ar × Int32 × Int32 × Int32 × Int32 × Int32
abbrev sC : Type := sS × (Nat → Int64) × Int32
abbrev ia (n : Nat) (f : Ar) : tk_E := .inl (0, n, .inl f)
abbrev wd (g : sG) (h : sH) (p : sP) (c : sC) (t : tk_W) : tk_W :=
  .inr (0, [.ref 1, .ref 8, .ref 16, .ref 23]) ::
  .inr (1, [.int g.1, .ref 2, .ref 3, .ref 4, .ref 5, .ref 6, .ref 7]) :: ia 5 g.2.1 :: ia 5 g.2.2.1 :: ia 5 g.2.2.2.1 :: ia 5 g.2.2.2.2.1 :: ia 20 g.2.2.2.2.2.1 :: ia 20 g.2.2.2.2.2.2 ::
  .inr (2, [.int h.1, .ref 9, .ref 10, .ref 11, .ref 12, .ref 13, .ref 14, .ref 15]) :: ia 4 h.2.1 :: ia 4 h.2.2.1 :: ia 16 h.2.2.2.1 :: ia 16 h.2.2.2.2.1 :: ia 4 h.2.2.2.2.2.1 :: ia 4 h.2.2.2.2.2.2.1 :: ia 20 h.2.2.2.2.2.2.2 ::
  .inr (3, [.ref 17, .ref 21, .ref 22, .int p.2.2.2.1, .int p.2.2.2.2.1, .int p.2.2.2.2.2.1, .int p.2.2.2.2.2.2.1, .int p.2.2.2.2.2.2.2]) ::
  .inr (4, [.int p.1.1, .ref 18, .ref 19, .ref 20]) :: ia 5 p.1.2.1 :: ia 60 p.1.2.2.1 :: ia 72 p.1.2.2.2 :: ia 5 p.2.1 :: ia 5 p.2.2.1 ::
  .inr (5, [.ref 24, .ref 28, .int c.2.2]) :: .inr (4, [.int c.1.1, .ref 25, .ref 26, .ref 27]) :: ia 5 c.1.2.1 :: ia 60 c.1.2.2.1 :: ia 72 c.1.2.2.2 :: .inl (1, 32, .inr (.inl c.2.1)) :: t
abbrev eI : String := "java/lang/IndexOutOfBoundsException"
abbrev eS : String := "java/lang/IllegalStateException"
abbrev eA : String := "java/lang/IllegalArgumentException"
abbrev eU : String := "java/lang/UnsupportedOperationException"
def upNames : List String := ["java/lang/RuntimeException", "java/lang/Exception"]
theorem tk_own {own : String} {ic : Nat} {E : String} {names : List String} (h : (Bundle.ownAtoms own ic E names).all (fun x => (decide (x ∈ lw_tbl) && tk_gd x) || decide (x ∈ tk_four)) = true) : ∀ x ∈ Bundle.ownAtoms own ic E names, x ∈ tk_tbl ∨ x ∈ tk_four := by
  intro x hx
  have := List.all_eq_true.mp h x hx
  simp only [Bool.or_eq_true, Bool.and_eq_true, decide_eq_true_eq] at this
  rcases this with ⟨h1, h2⟩ | h1
  · exact Or.inl (tk_in h1 h2)
  · exact Or.inr h1
