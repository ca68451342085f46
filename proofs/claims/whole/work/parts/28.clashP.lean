/-! ===== clash: what class and reference keep in step ===== -/
theorem shr63 : ∀ r, r < 64 → (((nI r).toInt64.toUInt64 &&& Int64.toUInt64 63).toBitVec % 64#64).toNat = r := by decide +kernel
theorem shl63 : ∀ r, r < 64 → ∀ j, j < 64 → ((1 : Int64) <<< ((nI r).toInt64 &&& 63)).toBitVec.getLsbD j = decide (j = r) := by decide +kernel
theorem sbt_bit (s : Nat → Int64) (k : Nat) : sbt s k = 0 ↔ (s (k / 64)).toBitVec.getLsbD (k % 64) = false := by
  have hr : k % 64 < 64 := Nat.mod_lt _ (by decide)
  have e : (sbt s k).toBitVec = ((s (k / 64)).toBitVec >>> (k % 64)) &&& 1#64 := by
    simp only [sbt]
    rw [Int64.toBitVec_and]
    show (((s (k / 64)).toUInt64 >>> ((nI (k % 64)).toInt64.toUInt64 &&& Int64.toUInt64 63)).toBitVec) &&& 1#64 = _
    rw [UInt64.toBitVec_shiftRight]
    show ((s (k / 64)).toBitVec >>> (((nI (k % 64)).toInt64.toUInt64 &&& Int64.toUInt64 63).toBitVec % 64#64)) &&& 1#64 = _
    rw [BitVec.ushiftRight_eq', shr63 _ hr]
  rw [← Int64.toBitVec_inj, e, BitVec.and_one_eq_setWidth_ofBool_getLsbD]
  have e2 : ((s (k / 64)).toBitVec >>> (k % 64)).getLsbD 0 = (s (k / 64)).toBitVec.getLsbD (k % 64) := by
    rw [BitVec.getLsbD_ushiftRight, Nat.add_zero]
  rw [e2]
  cases (s (k / 64)).toBitVec.getLsbD (k % 64)
  · exact ⟨fun _ => rfl, fun _ => rfl⟩
  · exact ⟨fun q => absurd q (by decide), fun q => absurd q (by decide)⟩
theorem sbt_orb (s : Nat → Int64) (n m : Nat) : sbt (orb s n) m = 0 ↔ (m ≠ n ∧ sbt s m = 0) := by
  rw [sbt_bit, sbt_bit]
  have hr : m % 64 < 64 := Nat.mod_lt _ (by decide)
  have hn : n % 64 < 64 := Nat.mod_lt _ (by decide)
  simp only [orb]
  by_cases q : m / 64 = n / 64
  · rw [q, pk_uLs, Int64.toBitVec_or, BitVec.getLsbD_or, shl63 _ hn _ hr, Bool.or_eq_false_iff, decide_eq_false_iff_not]
    constructor
    · rintro ⟨h1, h2⟩; exact ⟨by omega, h1⟩
    · rintro ⟨h1, h2⟩; exact ⟨h2, by omega⟩
  · rw [pk_uLn q]
    exact ⟨fun z => ⟨by intro w; exact q (by rw [w]), z⟩, fun z => z.2⟩
theorem sbt_zfl (s : Nat → Int64) (n : Nat) (hn : n < 2048) : sbt (zfl s 32) n = 0 := by
  rw [sbt_bit]
  simp only [zfl]
  rw [if_pos (by omega)]
  show (0#64).getLsbD (n % 64) = false
  exact BitVec.getLsbD_zero
def Zr (f : Ar) : Prop := ∀ c, c < 12 → c ≠ 0 → c ≠ 1 → c ≠ 10 → f c = 0
def bEq (br : Ar) (s : Nat → Int64) : Prop := ∀ n, n < 2048 → (br n = 0 ↔ sbt s n = 0)
def SC (D : Dt) (ht k : Nat) (v : Nat → Nat) (x : sW) (br nw : Ar) : Prop := (∀ j, j < k → v j ≤ 6 ∧ nw j = nI (v j)) ∧ (∀ j, k ≤ j → j < D.G → nw j = 0) ∧ Zr x.1 ∧ ((x.2.2 = 0 ∧ (∀ i, i ≤ k → rowOK D ht v i x.1) ∧ bEq br x.2.1 ∧ br 0 = 0) ∨ (¬ x.2.2 = 0 ∧ ¬ br 0 = 0))
def LC (D : Dt) (ht k : Nat) (v : Nat → Nat) (n : Nat) (z : sW) (br nw : Ar) : Prop := (∀ j, j < k → v j ≤ 6 ∧ nw j = nI (v j)) ∧ nw k = nI n ∧ (∀ j, k < j → j < D.G → nw j = 0) ∧ Zr z.1 ∧ ((z.2.2 = 0 ∧ (∀ i, i ≤ k → rowOK D ht v i z.1) ∧ rowOK D ht (uN v k (n - 1)) (k + 1) z.1 ∧ bEq br z.2.1 ∧ br 0 = 0) ∨ (¬ z.2.2 = 0 ∧ ¬ br 0 = 0))
theorem wkL_ah {rec : sW → sW} {sb : Ar} {k : Nat} {z : sW} (h : ¬ z.2.2 = 0) (r v : Nat) : wkL rec sb k r v z = z := by
  cases r with
  | zero => rfl
  | succ r => show (if z.2.2 = 0 then _ else _) = z; rw [if_neg h]
theorem wkF_ah {G : Nat} {R : Nat → Nat} {sb : Ar} (m k : Nat) {x : sW} (h : ¬ x.2.2 = 0) : ¬ (wkF G R sb m k x).2.2 = 0 := by
  cases m with
  | zero => show ¬ (if x.2.2 = 0 then _ else (1 : Int32)) = 0; rw [if_neg h]; decide
  | succ m =>
    show ¬ (wkL (wkF G R sb m (k + 1)) sb k (R k + 1) 0 (stl x.1 k 12, x.2)).2.2 = 0
    rw [wkL_ah (z := (stl x.1 k 12, x.2)) h]; exact h
theorem sc_enter {D : Dt} {ht k : Nat} {v : Nat → Nat} {x : sW} {br nw : Ar} (hk : k < D.G) (h : SC D ht k v x br nw) : LC D ht k v 0 (stl x.1 k 12, x.2) br nw := by
  obtain ⟨h1, h2, h3, h4⟩ := h
  refine ⟨h1, h2 k (Nat.le_refl _) hk, fun j hj hj2 => h2 j (by omega) hj2, fun c hc c0 c1 c2 => ?_, ?_⟩
  · show stl x.1 k 12 c = 0
    rw [stl_lt (by omega)]; exact h3 c hc c0 c1 c2
  · rcases h4 with ⟨a1, a2, a3, a4⟩ | h5
    · exact Or.inl ⟨a1, fun i hi => row_frame (fun j hj => stl_lt (by omega)) (a2 i hi), row_stl (a2 k (Nat.le_refl _)), a3, a4⟩
    · exact Or.inr h5
theorem lc_try {D : Dt} {ht k n : Nat} {v : Nat → Nat} {z : sW} {br nw sb pc bd : Ar} (hk : k < D.G) (hn : n ≤ 6) (h : LC D ht k v n z br nw) (h0 : z.2.2 = 0) : SC D ht (k + 1) (uN v k n) (if n = 0 then z.1 else adb z.1 (pbf (gD D) (hHt D pc bd) ht sb D.G) k 12, z.2) br nw := by
  obtain ⟨h1, h2, h3, h4, h5⟩ := h
  obtain ⟨-, a2, a3, a4, a5⟩ := h5.resolve_right (fun q => q.1 h0)
  have fr : ∀ j, j < (k + 1) * 12 → (if n = 0 then z.1 else adb z.1 (pbf (gD D) (hHt D pc bd) ht sb D.G) k 12) j = z.1 j := by
    intro j hj
    split
    · rfl
    · exact adb_lt hj
  refine ⟨fun j hj => ?_, fun j hj hj2 => h3 j (by omega) hj2, fun c hc c0 c1 c2 => ?_, Or.inl ⟨h0, fun i hi => ?_, a4, a5⟩⟩
  · by_cases q : j = k
    · subst q; rw [uN_eq]; exact ⟨hn, h2⟩
    · rw [uN_lt (by omega)]; exact h1 j (by omega)
  · show (if n = 0 then z.1 else _) c = 0
    rw [fr c (by omega)]; exact h4 c hc c0 c1 c2
  · rcases Nat.lt_or_ge i (k + 1) with q | q
    · refine row_frame (fun j hj => fr j (by omega)) (row_congr (fun j hj => ?_) (a2 i (by omega)))
      rw [uN_lt (by omega)]
    · obtain rfl : i = k + 1 := by omega
      exact row_try hk a3
theorem lc_try1 {D : Dt} {ht k n : Nat} {v : Nat → Nat} {z : sW} {br nw : Ar} (hn : n ≤ 6) (h : LC D ht k v n z br nw) (h0 : ¬ z.2.2 = 0) : SC D ht (k + 1) (uN v k n) z br nw := by
  obtain ⟨h1, h2, h3, h4, h5⟩ := h
  refine ⟨fun j hj => ?_, fun j hj hj2 => h3 j (by omega) hj2, h4, Or.inr (h5.resolve_left (fun q => h0 q.1))⟩
  by_cases q : j = k
  · subst q; rw [uN_eq]; exact ⟨hn, h2⟩
  · rw [uN_lt (by omega)]; exact h1 j (by omega)
/-- behind number n: on to n + 1 -/
theorem sc_next {D : Dt} {ht k n : Nat} {v : Nat → Nat} {z : sW} {br nw : Ar} (h : SC D ht (k + 1) (uN v k n) z br nw) : LC D ht k v (n + 1) z br (upd nw k (nI (n + 1))) := by
  obtain ⟨h1, h2, h3, h4⟩ := h
  refine ⟨fun j hj => ?_, pk_us, fun j hj hj2 => ?_, h3, ?_⟩
  · have := h1 j (by omega)
    rw [uN_lt hj] at this
    rw [pk_un (by omega)]; exact this
  · rw [pk_un (by omega)]; exact h2 j (by omega) hj2
  · rcases h4 with ⟨a1, a2, a3, a4⟩ | h5
    · refine Or.inl ⟨a1, fun i hi => row_congr (fun j hj => ?_) (a2 i (by omega)), a2 (k + 1) (Nat.le_refl _), a3, a4⟩
      exact uN_lt (by omega)
    · exact Or.inr h5
/-- .. the last number is done -/
theorem sc_exit {D : Dt} {ht k n : Nat} {v : Nat → Nat} {z : sW} {br nw : Ar} (h : SC D ht (k + 1) (uN v k n) z br nw) : SC D ht k v z br (upd nw k 0) := by
  obtain ⟨h1, h2, h3, h4⟩ := h
  refine ⟨fun j hj => ?_, fun j hj hj2 => ?_, h3, ?_⟩
  · have := h1 j (by omega)
    rw [uN_lt hj] at this
    rw [pk_un (by omega)]; exact this
  · by_cases q : j = k
    · subst q; exact pk_us
    · rw [pk_un q]; exact h2 j (by omega) hj2
  · rcases h4 with ⟨a1, a2, a3, a4⟩ | h5
    · exact Or.inl ⟨a1, fun i hi => row_congr (fun j hj => uN_lt (by omega)) (a2 i (by omega)), a3, a4⟩
    · exact Or.inr h5
/-- .. where the class has stopped, only the reference's mark counts -/
theorem sc_stop {D : Dt} {ht k : Nat} {v : Nat → Nat} {z y : sW} {br nw : Ar} (h : SC D ht k v y br nw) (hy : ¬ y.2.2 = 0) (hz : ¬ z.2.2 = 0) (hZ : Zr z.1) : SC D ht k v z br nw :=
  ⟨h.1, h.2.1, hZ, Or.inr ⟨hz, (h.2.2.2.resolve_left (fun q => hy q.1)).2⟩⟩
theorem sc_leaf {D : Dt} {ht : Nat} {v : Nat → Nat} {x : sW} {br nw : Ar} (hD : D.ok) (h : SC D ht D.G v x br nw) : SC D ht D.G v (wlf D.G x) (upd br (vn (vio D ht v) 11) 1) nw := by
  obtain ⟨h1, h2, h3, h4⟩ := h
  refine ⟨h1, h2, h3, ?_⟩
  rcases h4 with ⟨a1, a2, a3, a4⟩ | ⟨b1, b2⟩
  · have eb : brn x.1 (D.G * 12) 11 = vn (vio D ht v) 11 := row_brn hD (fun j hj => (h1 j hj).1) (a2 D.G (Nat.le_refl _))
    show ((if x.2.2 = 0 then (if brn x.1 (D.G * 12) 11 = 0 then 1 else 0) else 1) = (0 : Int32) ∧ (∀ i, i ≤ D.G → rowOK D ht v i x.1) ∧ bEq (upd br (vn (vio D ht v) 11) 1) (orb x.2.1 (brn x.1 (D.G * 12) 11)) ∧ upd br (vn (vio D ht v) 11) 1 0 = 0) ∨ (¬ (if x.2.2 = 0 then (if brn x.1 (D.G * 12) 11 = 0 then 1 else 0) else 1) = (0 : Int32) ∧ ¬ upd br (vn (vio D ht v) 11) 1 0 = 0)
    rw [eb, if_pos a1]
    by_cases q : vn (vio D ht v) 11 = 0
    · refine Or.inr ⟨by rw [if_pos q]; decide, ?_⟩
      rw [q, pk_us]; decide
    · refine Or.inl ⟨if_neg q, a2, fun n hn => ?_, ?_⟩
      · rw [sbt_orb]
        by_cases w : n = vn (vio D ht v) 11
        · subst w
          rw [pk_us]
          exact ⟨fun z => absurd z (by decide), fun z => absurd rfl z.1⟩
        · rw [pk_un w]
          exact ⟨fun z => ⟨w, (a3 n hn).mp z⟩, fun z => (a3 n hn).mpr z.2⟩
      · rw [pk_un (fun z => q z.symm)]; exact a4
  · refine Or.inr ⟨?_, ?_⟩
    · show ¬ (if x.2.2 = 0 then _ else (1 : Int32)) = 0
      rw [if_neg b1]; decide
    · show ¬ upd br (vn (vio D ht v) 11) 1 0 = 0
      simp only [upd]
      split
      · decide
      · exact b2
/-! the sets that are left -/
theorem ism_iff (br : Ar) (out : Int32) : ∀ k, ¬ ism br out k = 0 ↔ ∃ j, j < k ∧ ¬ br j = 0 ∧ nI j &&& (out ^^^ -1) = 0 := by
  intro k
  induction k with
  | zero => exact ⟨fun q => absurd rfl q, fun ⟨j, hj, _⟩ => absurd hj (by omega)⟩
  | succ k ih =>
    simp only [ism]
    by_cases h : ism br out k = 0
    · rw [if_pos h]
      have hno : ¬ ∃ j, j < k ∧ ¬ br j = 0 ∧ nI j &&& (out ^^^ -1) = 0 := fun q => (ih.mpr q) h
      constructor
      · intro q
        refine ⟨k, by omega, ?_, ?_⟩
        · intro z; rw [if_pos z] at q; exact q rfl
        · split at q
          · exact absurd rfl q
          · split at q
            · assumption
            · exact absurd rfl q
      · rintro ⟨j, hj, h1, h2⟩
        rcases Nat.lt_or_ge j k with w | w
        · exact absurd ⟨j, w, h1, h2⟩ hno
        · obtain rfl : j = k := by omega
          rw [if_neg h1, if_pos h2]; decide
    · rw [if_neg h]
      obtain ⟨j, hj, h1⟩ := ih.mp h
      exact ⟨fun _ => ⟨j, by omega, h1⟩, fun _ => by decide⟩
theorem sch_iff (s : Nat → Int64) (rl : Int32) : ∀ m k, ¬ sch s rl m k = 0 ↔ ∃ j, k ≤ j ∧ j < k + m ∧ nI j &&& rl = 0 ∧ ¬ sbt s j = 0 := by
  intro m
  induction m with
  | zero => intro k; exact ⟨fun q => absurd rfl q, fun ⟨j, h1, h2, _⟩ => by omega⟩
  | succ m ih =>
    intro k
    simp only [sch]
    by_cases h : nI k &&& rl = 0 ∧ ¬ sbt s k = 0
    · rw [if_pos h]
      exact ⟨fun _ => ⟨k, by omega, by omega, h⟩, fun _ => by decide⟩
    · rw [if_neg h, ih (k + 1)]
      constructor
      · rintro ⟨j, h1, h2, h3⟩; exact ⟨j, by omega, by omega, h3⟩
      · rintro ⟨j, h1, h2, h3⟩
        refine ⟨j, ?_, by omega, h3⟩
        rcases Nat.lt_or_ge k j with w | w
        · exact w
        · obtain rfl : j = k := by omega
          exact absurd h3 h
theorem and2047 {k : Nat} (hk : k < 2048) : nI k &&& 2047 = nI k := by
  rw [pk_andN (by omega) 11 rfl, Nat.mod_eq_of_lt hk]
theorem dm (a b : Int32) : (a ^^^ -1) &&& (b ^^^ -1) = (a ||| b) ^^^ -1 := by
  apply Int32.toBitVec_inj.1
  rw [Int32.toBitVec_and, Int32.toBitVec_xor, Int32.toBitVec_xor, Int32.toBitVec_xor, Int32.toBitVec_or]
  apply BitVec.eq_of_getLsbD_eq
  intro i hi
  simp only [BitVec.getLsbD_and, BitVec.getLsbD_xor, BitVec.getLsbD_or]
  have hm : ∀ i, i < 32 → (-1 : Int32).toBitVec.getLsbD i = true := by decide +kernel
  rw [hm i hi]
  cases a.toBitVec.getLsbD i <;> cases b.toBitVec.getLsbD i <;> rfl
def rout (br : Ar) : Nat → Int32
  | 0 => 0
  | i + 1 => rout br i ||| (if ism br (rout br i ||| (1 : Int32) <<< (nI i &&& 31)) 2048 = 0 then (1 : Int32) <<< (nI i &&& 31) else 0)
theorem lft_rout {br : Ar} {s : Nat → Int64} (h : bEq br s) : ∀ i, lft s i = 2047 &&& (rout br i ^^^ -1) := by
  intro i
  induction i with
  | zero => show (2047 : Int32) = 2047 &&& ((0 : Int32) ^^^ -1); decide +kernel
  | succ i ih =>
    simp only [lft, rout]
    generalize (1 : Int32) <<< (nI i &&& 31) = b
    have e1 : lft s i &&& (b ^^^ -1) = 2047 &&& ((rout br i ||| b) ^^^ -1) := by rw [ih, Int32.and_assoc, dm]
    have e2 : ¬ sch s (lft s i &&& (b ^^^ -1)) 2048 0 = 0 ↔ ¬ ism br (rout br i ||| b) 2048 = 0 := by
      rw [sch_iff, ism_iff, e1]
      constructor
      · rintro ⟨j, -, h2, h3, h4⟩
        refine ⟨j, by omega, fun q => h4 ((h j (by omega)).mp q), ?_⟩
        rw [← Int32.and_assoc, and2047 (by omega)] at h3; exact h3
      · rintro ⟨j, h2, h3, h4⟩
        refine ⟨j, by omega, by omega, ?_, fun q => h3 ((h j (by omega)).mpr q)⟩
        rw [← Int32.and_assoc, and2047 (by omega)]; exact h4
    by_cases q : ism br (rout br i ||| b) 2048 = 0
    · have q2 : sch s (lft s i &&& (b ^^^ -1)) 2048 0 = 0 := Decidable.byContradiction (fun z => (e2.mp z) q)
      rw [if_pos q2, if_pos q, e1]
    · rw [if_neg (e2.mpr q), if_neg q, Int32.or_zero, ih]
theorem ism0 (br : Ar) : ¬ ism br 0 2048 = 0 ↔ ¬ br 0 = 0 := by
  rw [ism_iff]
  constructor
  · rintro ⟨j, h1, h2, h3⟩
    have : nI j &&& ((0 : Int32) ^^^ -1) = nI j := by
      rw [show (0 : Int32) ^^^ -1 = -1 from by decide, Int32.and_neg_one]
    rw [this] at h3
    have := (nI_eq (b := 0) (by omega) (by decide)).mp h3
    rw [this] at h2; exact h2
  · intro q
    exact ⟨0, by omega, q, by decide⟩
