/-! ===== the rows of sums, as whole numbers ===== -/
abbrev iO (x : Int) : Int32 := Int32.ofInt x
theorem iO_n (a : Nat) : nI a = iO (a : Int) := rfl
theorem iO_add (x y : Int) : iO x + iO y = iO (x + y) := (Int32.ofInt_add x y).symm
theorem iO_sub (x y : Int) : iO x - iO y = iO (x - y) := (Int32.ofInt_sub x y).symm
theorem iO_mul (x y : Int) : iO x * iO y = iO (x * y) := (Int32.ofInt_mul x y).symm
theorem iO_neg (x : Int) : -(iO x) = iO (-x) := (Int32.ofInt_neg x).symm
theorem iO_toInt {x : Int} (h1 : -2 ^ 31 ≤ x) (h2 : x < 2 ^ 31) : (iO x).toInt = x := Int32.toInt_ofInt_of_le h1 h2
theorem iO_le0 {x : Int} (h1 : -2 ^ 31 ≤ x) (h2 : x < 2 ^ 31) : iO x ≤ 0 ↔ x ≤ 0 := by
  rw [Int32.le_iff_toInt_le, iO_toInt h1 h2]; rfl
def rI (D : Dt) (ht : Nat) (v : Nat → Nat) (k c : Nat) : Int :=
  if c = 0 then (D.LE ht : Int) - sN v D.K k else if c = 1 then (sN v D.K k : Int) - D.GR ht else if c = 10 then (sN v (fun _ => 1) k : Int) - D.MO ht else if c = 11 then (sN v D.C k : Int)
  else if c % 2 = 0 then (s3 v D.K D.B ((c - 2) / 2) k : Int) - D.HU (4 * ht + (c - 2) / 2) * sN v D.K k
  else (D.HL (4 * ht + (c - 2) / 2) : Int) * sN v D.K k - s3 v D.K D.A ((c - 2) / 2) k
def pI (D : Dt) (ht k c : Nat) : Int :=
  if c = 0 then -(D.K k : Int) else if c = 1 then (D.K k : Int) else if c = 10 then 1 else if c = 11 then (D.C k : Int)
  else if c % 2 = 0 then (D.K k : Int) * (D.B (4 * k + (c - 2) / 2) - D.HU (4 * ht + (c - 2) / 2))
  else (D.K k : Int) * (D.HL (4 * ht + (c - 2) / 2) - D.A (4 * k + (c - 2) / 2))
theorem rI_congr {D : Dt} {ht : Nat} {v w : Nat → Nat} {k : Nat} (h : ∀ j, j < k → v j = w j) (c : Nat) : rI D ht v k c = rI D ht w k c := by
  simp only [rI]
  rw [sN_congr (f := D.K) k h, sN_congr (f := fun _ => 1) k h, sN_congr (f := D.C) k h, s3_congr (k := D.K) (f := D.B) k h, s3_congr (k := D.K) (f := D.A) k h]
theorem uN_lt {v : Nat → Nat} {k n j : Nat} (h : j < k) : uN v k n j = v j := if_neg (by omega)
theorem uN_eq {v : Nat → Nat} {k n : Nat} : uN v k n k = n := if_pos rfl
theorem rI_0 (D : Dt) (ht : Nat) (v : Nat → Nat) (k c : Nat) : rI D ht (uN v k 0) (k + 1) c = rI D ht v k c := by
  have e1 : ∀ f : Nat → Nat, sN (uN v k 0) f (k + 1) = sN v f k := fun f => by
    show sN (uN v k 0) f k + uN v k 0 k * f k = _
    rw [uN_eq, Nat.zero_mul, Nat.add_zero]
    exact sN_congr k (fun j hj => uN_lt hj)
  have e2 : ∀ (f : Nat → Nat) (e : Nat), s3 (uN v k 0) D.K f e (k + 1) = s3 v D.K f e k := fun f e => by
    show s3 (uN v k 0) D.K f e k + uN v k 0 k * D.K k * f (4 * k + e) = _
    rw [uN_eq, Nat.zero_mul, Nat.zero_mul, Nat.add_zero]
    exact s3_congr k (fun j hj => uN_lt hj)
  simp only [rI, e1, e2]
theorem rI_s (D : Dt) (ht : Nat) (v : Nat → Nat) (k n c : Nat) : rI D ht (uN v k (n + 1)) (k + 1) c = rI D ht (uN v k n) (k + 1) c + pI D ht k c := by
  have e1 : ∀ (f : Nat → Nat) (n : Nat), sN (uN v k n) f (k + 1) = sN v f k + n * f k := fun f n => by
    show sN (uN v k n) f k + uN v k n k * f k = _
    rw [uN_eq, sN_congr k (fun j hj => uN_lt hj)]
  have e2 : ∀ (f : Nat → Nat) (e n : Nat), s3 (uN v k n) D.K f e (k + 1) = s3 v D.K f e k + n * D.K k * f (4 * k + e) := fun f e n => by
    show s3 (uN v k n) D.K f e k + uN v k n k * D.K k * f (4 * k + e) = _
    rw [uN_eq, s3_congr k (fun j hj => uN_lt hj)]
  simp only [rI, pI, e1, e2]
  generalize (c - 2) / 2 = e
  generalize sN v D.K k = s
  generalize s3 v D.K D.B e k = b
  generalize s3 v D.K D.A e k = a
  generalize D.HU (4 * ht + e) = hu
  generalize D.HL (4 * ht + e) = hl
  generalize D.K k = K
  generalize D.B (4 * k + e) = B
  generalize D.A (4 * k + e) = A
  push_cast
  split
  · grind
  split
  · grind
  split
  · grind
  split
  · grind
  split
  · grind
  · grind
/-- row k of f holds the sums of the charge v over the first k goods -/
def rowOK (D : Dt) (ht : Nat) (v : Nat → Nat) (k : Nat) (f : Ar) : Prop := ∀ c, c < 12 → f (k * 12 + c) = iO (rI D ht v k c)
theorem row_congr {D : Dt} {ht : Nat} {v w : Nat → Nat} {k : Nat} {f : Ar} (h : ∀ j, j < k → v j = w j) (q : rowOK D ht v k f) : rowOK D ht w k f := fun c hc => by
  rw [← rI_congr h]; exact q c hc
theorem row_frame {D : Dt} {ht : Nat} {v : Nat → Nat} {k : Nat} {f f' : Ar} (h : ∀ j, j < (k + 1) * 12 → f' j = f j) (q : rowOK D ht v k f) : rowOK D ht v k f' := fun c hc => by
  rw [h (k * 12 + c) (by omega)]; exact q c hc
theorem row_stl {D : Dt} {ht : Nat} {v : Nat → Nat} {k : Nat} {f : Ar} (q : rowOK D ht v k f) : rowOK D ht (uN v k 0) (k + 1) (stl f k 12) := fun c hc => by
  rw [rI_0]
  simp only [stl]
  rw [if_pos (by omega), show (k + 1) * 12 + c - 12 = k * 12 + c by omega]
  exact q c hc
theorem stl_lt {f : Ar} {k j : Nat} (h : j < (k + 1) * 12) : stl f k 12 j = f j := by
  simp only [stl]; rw [if_neg (by omega)]
theorem adb_lt {f sb : Ar} {k j : Nat} (h : j < (k + 1) * 12) : adb f sb k 12 j = f j := by
  simp only [adb]; rw [if_neg (by omega)]
/-- the class's goods and heats over the data -/
abbrev gD (D : Dt) : sG := (nI D.G, nN D.K, nN D.C, nN D.S, nN D.L, nN D.A, nN D.B)
abbrev hHt (D : Dt) (pc bd : Ar) : sH := (nI D.H, nN D.LE, nN D.GR, nN D.HL, nN D.HU, nN D.MO, pc, bd)
theorem pbv_pI (D : Dt) (pc bd : Ar) (ht k c : Nat) : pbv (gD D) (hHt D pc bd) ht k c = iO (pI D ht k c) := by
  simp only [pbv, pI, nN]
  rw [Nat.mul_comm ht 4, Nat.mul_comm k 4]
  split
  · rw [iO_n, iO_neg]
  split
  · rfl
  split
  · rfl
  split
  · rfl
  split
  · rw [iO_n, iO_n, iO_n, iO_sub, iO_mul]
  · rw [iO_n, iO_n, iO_n, iO_sub, iO_mul]
theorem row_adb {D : Dt} {ht : Nat} {v : Nat → Nat} {k n : Nat} {f sb pc bd : Ar} (hk : k < D.G) (q : rowOK D ht (uN v k n) (k + 1) f) : rowOK D ht (uN v k (n + 1)) (k + 1) (adb f (pbf (gD D) (hHt D pc bd) ht sb D.G) k 12) := fun c hc => by
  rw [rI_s]
  simp only [adb]
  rw [if_pos (by omega), q c hc, show (k + 1) * 12 + c - 12 = k * 12 + c by omega]
  have e : pbf (gD D) (hHt D pc bd) ht sb D.G (k * 12 + c) = iO (pI D ht k c) := by
    simp only [pbf]
    rw [if_pos (by omega), show (k * 12 + c) / 12 = k by omega, show (k * 12 + c) % 12 = c by omega, pbv_pI]
  rw [e, iO_add]
theorem row_try {D : Dt} {ht : Nat} {v : Nat → Nat} {k n : Nat} {f sb pc bd : Ar} (hk : k < D.G) (q : rowOK D ht (uN v k (n - 1)) (k + 1) f) : rowOK D ht (uN v k n) (k + 1) (if n = 0 then f else adb f (pbf (gD D) (hHt D pc bd) ht sb D.G) k 12) := by
  by_cases h : n = 0
  · rw [if_pos h, h]; rw [h] at q; exact q
  · rw [if_neg h]
    obtain ⟨r, rfl⟩ : ∃ r, n = r + 1 := ⟨n - 1, by omega⟩
    exact row_adb hk q
theorem row_ld {D : Dt} {ht : Nat} {v : Nat → Nat} {f pc bd : Ar} (h0 : ∀ c, c < 12 → c ≠ 0 → c ≠ 1 → c ≠ 10 → f c = 0) : rowOK D ht v 0 (ldR f (hHt D pc bd) ht) := fun c hc => by
  have e : ∀ k, sN v k 0 = 0 := fun _ => rfl
  have e3 : ∀ k f e, s3 v k f e 0 = 0 := fun _ _ _ => rfl
  rw [show 0 * 12 + c = c by omega]
  simp only [ldR, upd, rI, e, e3, nN]
  by_cases q0 : c = 0
  · rw [if_neg (by omega), if_neg (by omega), if_pos q0, if_pos q0, iO_n]; simp
  · by_cases q1 : c = 1
    · rw [if_neg (by omega), if_pos q1, if_neg q0, if_pos q1, iO_n, iO_neg]; simp
    · by_cases q10 : c = 10
      · rw [if_pos q10, if_neg q0, if_neg q1, if_pos q10, iO_n, iO_neg]; simp
      · rw [if_neg q10, if_neg q1, if_neg q0, if_neg q0, if_neg q1, if_neg q10, h0 c hc q0 q1 q10]
        split
        · rfl
        · split <;> (simp; rfl)
theorem row_brn {D : Dt} {ht : Nat} {v : Nat → Nat} {f : Ar} (hD : D.ok) (hv6 : ∀ j, j < D.G → v j ≤ 6) (q : rowOK D ht v D.G f) : brn f (D.G * 12) 11 = vn (vio D ht v) 11 := by
  refine brn_vn f (D.G * 12) (vio D ht v) 11 (fun c hc => ?_)
  rw [q c (by omega)]
  have hG := hD.G
  have bK := bd_K hD hG hv6
  have b1 := bd_1 hG hv6
  have bB := bd_B (e := (c - 2) / 2) hD hG hv6
  have bA := bd_A (e := (c - 2) / 2) hD hG hv6
  have bU := hD.HU (4 * ht + (c - 2) / 2)
  have bL := hD.HL (4 * ht + (c - 2) / 2)
  have bUm : D.HU (4 * ht + (c - 2) / 2) * sN v D.K D.G ≤ 10000 * 30000 := Nat.mul_le_mul bU bK
  have bLm : D.HL (4 * ht + (c - 2) / 2) * sN v D.K D.G ≤ 10000 * 30000 := Nat.mul_le_mul bL bK
  have bl := hD.LE ht
  have bg := hD.GR ht
  have bm := hD.MO ht
  simp only [rI, vio]
  split
  · rw [iO_le0 (by omega) (by omega), decide_eq_false_iff_not]; omega
  split
  · rw [iO_le0 (by omega) (by omega), decide_eq_false_iff_not]; omega
  split
  · rw [iO_le0 (by omega) (by omega), decide_eq_false_iff_not]; omega
  rw [if_neg (by omega)]
  generalize s3 v D.K D.B ((c - 2) / 2) D.G = b at *
  generalize s3 v D.K D.A ((c - 2) / 2) D.G = a at *
  rw [← Int.natCast_mul, ← Int.natCast_mul]
  generalize D.HU (4 * ht + (c - 2) / 2) * sN v D.K D.G = u at *
  generalize D.HL (4 * ht + (c - 2) / 2) * sN v D.K D.G = l at *
  split
  · rw [iO_le0 (by omega) (by omega), decide_eq_false_iff_not]; omega
  · rw [iO_le0 (by omega) (by omega), decide_eq_false_iff_not]; omega
/-- is the charge v of the first k goods given up? -/
def ovr (D : Dt) (ht : Nat) (v : Nat → Nat) (k : Nat) (bc : Int32) : Prop := (¬ bc = -1 ∧ ¬ nI (sN v D.C k) < bc) ∨ D.GR ht < sN v D.K k
theorem row_gvu {D : Dt} {ht : Nat} {v : Nat → Nat} {k : Nat} {f : Ar} {bc : Int32} (hD : D.ok) (hk : k ≤ 5) (hv6 : ∀ j, j < k → v j ≤ 6) (q : rowOK D ht v k f) : gvu f bc k = 0 ↔ ¬ ovr D ht v k bc := by
  have bK := bd_K hD hk hv6
  have bg := hD.GR ht
  have r1 : rI D ht v k 1 = (sN v D.K k : Int) - D.GR ht := rfl
  have r11 : rI D ht v k 11 = (sN v D.C k : Int) := rfl
  simp only [gvu, ovr]
  rw [q 1 (by decide), q 11 (by decide), r1, r11, ← iO_n]
  by_cases c1 : sN v D.K k ≤ D.GR ht
  · rw [if_pos ((iO_le0 (by omega) (by omega)).mpr (by omega))]
    by_cases c2 : bc = -1
    · rw [if_pos c2]
      exact ⟨fun _ z => z.elim (fun w => w.1 c2) (fun w => by omega), fun _ => rfl⟩
    · rw [if_neg c2]
      by_cases c3 : nI (sN v D.C k) < bc
      · rw [if_pos c3]
        exact ⟨fun _ z => z.elim (fun w => w.2 c3) (fun w => by omega), fun _ => rfl⟩
      · rw [if_neg c3]
        exact ⟨fun z => absurd z (by decide), fun z => absurd (Or.inl ⟨c2, c3⟩) z⟩
  · rw [if_neg (fun z => by have := (iO_le0 (by omega) (by omega)).mp z; omega)]
    exact ⟨fun z => absurd z (by decide), fun z => absurd (Or.inr (by omega)) z⟩
