/-! ===== take, bound, worst: class and reference say the same ===== -/
theorem rfw_iff (pl ms : Ar) (ht : Nat) : ∀ n, rfw pl ms ht n = 0 ↔ ∀ j, j < n → pl (5 * ht + j) ≤ ms j := by
  intro n
  induction n with
  | zero => exact ⟨fun _ j hj => absurd hj (by omega), fun _ => rfl⟩
  | succ n ih =>
    simp only [rfw]
    by_cases h : rfw pl ms ht n = 0
    · rw [if_pos h]
      constructor
      · intro q j hj
        rcases Nat.lt_or_ge j n with w | w
        · exact ih.mp h j w
        · obtain rfl : j = n := by omega
          exact Decidable.byContradiction (fun z => by rw [if_neg z] at q; exact absurd q (by decide))
      · intro q
        rw [if_pos (q n (by omega))]
    · rw [if_neg h]
      exact ⟨fun q => absurd q (by decide), fun q => absurd (ih.mpr (fun j hj => q j (by omega))) h⟩
theorem enF_iff (gs bd : Ar) (ht : Nat) : ∀ m i, ¬ enF gs bd ht m i = 0 ↔ ∀ j, i ≤ j → j < i + m → bd (ht * 5 + j) ≤ gs j := by
  intro m
  induction m with
  | zero => intro i; exact ⟨fun _ j h1 h2 => by omega, fun _ => by simp only [enF]; decide⟩
  | succ m ih =>
    intro i
    simp only [enF]
    by_cases h : bd (ht * 5 + i) ≤ gs i
    · rw [if_pos h, ih (i + 1)]
      constructor
      · intro q j h1 h2
        rcases Nat.lt_or_ge i j with w | w
        · exact q j w (by omega)
        · obtain rfl : j = i := by omega
          exact h
      · intro q j h1 h2; exact q j (by omega) (by omega)
    · rw [if_neg h]
      exact ⟨fun q => absurd rfl q, fun q => absurd (q i (Nat.le_refl _) (by omega)) h⟩
theorem few_eq {gs bd pl : Ar} {ht n : Nat} (h : ∀ j, j < n → bd (ht * 5 + j) = pl (5 * ht + j)) : ¬ enF gs bd ht n 0 = 0 ↔ rfw pl gs ht n = 0 := by
  rw [enF_iff, rfw_iff]
  constructor
  · intro q j hj; rw [← h j hj]; exact q j (by omega) (by omega)
  · intro q j _ hj; rw [h j (by omega)]; exact q j (by omega)
theorem tkf_eq {gs bd pl : Ar} {ht n : Nat} (h : ∀ j, j < n → bd (ht * 5 + j) = pl (ht * 5 + j)) : tkf gs bd ht n = tkf gs pl ht n := by
  funext j
  simp only [tkf]
  by_cases q : j < n
  · rw [if_pos q, if_pos q, h j q]
  · rw [if_neg q, if_neg q]
/-! bound -/
def cl (D : Dt) (i b : Nat) : Nat := (D.LE i * D.C b + D.K b - 1) / D.K b
theorem cl_le {L c k m : Nat} (hk : 1 ≤ k) : (L * c + k - 1) / k ≤ m ↔ L * c ≤ m * k := by
  rw [← Nat.lt_succ_iff, Nat.div_lt_iff_lt_mul (by omega), Nat.succ_mul]
  omega
theorem cl_mono {D : Dt} {i a b : Nat} (ha : 1 ≤ D.K a) (hb : 1 ≤ D.K b) (h : D.C a * D.K b ≤ D.C b * D.K a) : cl D i a ≤ cl D i b := by
  have h1 : D.LE i * D.C b ≤ cl D i b * D.K b := (cl_le hb).mp (Nat.le_refl _)
  refine (cl_le ha).mpr ?_
  refine Nat.le_of_mul_le_mul_right (c := D.K b) ?_ (by omega)
  calc D.LE i * D.C a * D.K b = D.LE i * (D.C a * D.K b) := Nat.mul_assoc _ _ _
    _ ≤ D.LE i * (D.C b * D.K a) := Nat.mul_le_mul_left _ h
    _ = D.LE i * D.C b * D.K a := (Nat.mul_assoc _ _ _).symm
    _ ≤ cl D i b * D.K b * D.K a := Nat.mul_le_mul_right _ h1
    _ = cl D i b * D.K a * D.K b := by rw [Nat.mul_assoc, Nat.mul_assoc, Nat.mul_comm (D.K b)]
def bv (D : Dt) (i : Nat) : Option Nat → Int64
  | none => -1
  | some b => lN (cl D i b)
theorem cl_lt {D : Dt} (hD : D.ok) (i b : Nat) (hb : 1 ≤ D.K b) : cl D i b ≤ 10000000000 := by
  have m1 : D.LE i * D.C b ≤ 100000 * 100000 := Nat.mul_le_mul (hD.LE i) (hD.C b)
  refine (cl_le hb).mpr ?_
  calc D.LE i * D.C b ≤ 10000000000 * 1 := by omega
    _ ≤ 10000000000 * D.K b := Nat.mul_le_mul_left _ hb
theorem lN_ne {a : Nat} (h : a < 2 ^ 63) : ¬ lN a = -1 := by
  intro q
  have := congrArg Int64.toInt q
  rw [pk_lT h] at this
  have e : (-1 : Int64).toInt = -1 := rfl
  rw [e] at this; omega
theorem bdF_bst {D : Dt} {i : Nat} (hD : D.ok) : ∀ n, n ≤ D.G → bdF (gD D) (nI (D.LE i)) n = bv D i (bst D n) := by
  intro n
  induction n with
  | zero => intro _; rfl
  | succ n ih =>
    intro hn
    have h1 := ih (by omega)
    have k1 := hD.K1 n (by omega)
    have k2 := hD.K n
    have l2 := hD.LE i
    have c2 := hD.C n
    have m1 : D.LE i * D.C n ≤ 100000 * 100000 := Nat.mul_le_mul l2 c2
    have eK : (nI (D.K n)).toInt64 = lN (D.K n) := nI_l (by omega)
    have eV : ((nI (D.LE i)).toInt64 * (nI (D.C n)).toInt64 + (nI (D.K n)).toInt64 - 1) / (nI (D.K n)).toInt64 = lN (cl D i n) := by
      rw [nI_l (by omega), nI_l (by omega), nI_l (by omega), lN_mul, lN_add, show (1 : Int64) = lN 1 from rfl, lN_sub (by omega), pk_lDiv (by omega) (by omega) (by omega)]
      rfl
    show (if 0 < rmin (gD D) n ∧ (0 : Int64) < (nI (D.K n)).toInt64 then
      (if bdF (gD D) (nI (D.LE i)) n = -1 then ((nI (D.LE i)).toInt64 * (nI (D.C n)).toInt64 + (nI (D.K n)).toInt64 - 1) / (nI (D.K n)).toInt64
       else if ((nI (D.LE i)).toInt64 * (nI (D.C n)).toInt64 + (nI (D.K n)).toInt64 - 1) / (nI (D.K n)).toInt64 < bdF (gD D) (nI (D.LE i)) n then ((nI (D.LE i)).toInt64 * (nI (D.C n)).toInt64 + (nI (D.K n)).toInt64 - 1) / (nI (D.K n)).toInt64 else bdF (gD D) (nI (D.LE i)) n)
      else bdF (gD D) (nI (D.LE i)) n) = bv D i (if 0 < D.R n ∧ lsc D n (bst D n) = true then some n else bst D n)
    rw [h1, eV, eK]
    have hR := hD.R n
    have er : rmin (gD D) n = nI (D.R n) := ok_rmin hD n (c := nN D.K)
    have h0 : (0 : Int64) < lN (D.K n) := (pk_lLT (a := 0) (by decide) (by omega)).mpr (by omega)
    rw [er]
    by_cases q : 0 < D.R n
    · rw [if_pos ⟨(nI_ltI (a := 0) (by decide) (by omega)).mpr q, h0⟩]
      cases hb : bst D n with
      | none =>
        show (if (-1 : Int64) = -1 then lN (cl D i n) else _) = _
        rw [if_pos rfl, if_pos (c := 0 < D.R n ∧ lsc D n none = true) ⟨q, rfl⟩]
        rfl
      | some b =>
        have hb1 := (bst_lt D n b hb).1
        have kb := hD.K1 b (by omega)
        have b1 := cl_lt hD i b kb
        have b2 := cl_lt hD i n k1
        show (if lN (cl D i b) = -1 then _ else if lN (cl D i n) < lN (cl D i b) then _ else lN (cl D i b)) = _
        rw [if_neg (lN_ne (by omega))]
        by_cases w : D.C n * D.K b < D.C b * D.K n
        · rw [if_pos (c := 0 < D.R n ∧ lsc D n (some b) = true) ⟨q, by simp only [lsc]; rw [decide_eq_true_eq]; exact w⟩]
          have hm := cl_mono (i := i) k1 kb (Nat.le_of_lt w)
          by_cases z : cl D i n < cl D i b
          · rw [if_pos ((pk_lLT (by omega) (by omega)).mpr z)]; rfl
          · rw [if_neg (fun y => z ((pk_lLT (by omega) (by omega)).mp y)), show cl D i b = cl D i n by omega]; rfl
        · rw [if_neg (c := 0 < D.R n ∧ lsc D n (some b) = true) (fun y => w (by have := y.2; simp only [lsc] at this; rw [decide_eq_true_eq] at this; exact this))]
          have hm := cl_mono (i := i) kb k1 (by omega)
          rw [if_neg (fun y => by have := (pk_lLT (by omega) (by omega)).mp y; omega)]
          rfl
    · rw [if_neg (fun y => q ((nI_ltI (a := 0) (by decide) (by omega)).mp y.1)), if_neg (c := 0 < D.R n ∧ lsc D n (bst D n) = true) (fun y => q y.1)]
/-! worst -/
theorem pkl_n {bd : Ar} {P : Nat → Nat} {D : Dt} (hD : D.ok) {ht n : Nat} (h : ∀ j, j < n → P j ≤ 6 ∧ bd (ht * 5 + j) = nI (P j)) : ∀ i, i ≤ n → pkl bd (nN D.K) ht i = lN (sN P D.K i) := by
  intro i
  induction i with
  | zero => intro _; rfl
  | succ i ih =>
    intro hi
    obtain ⟨h1, h2⟩ := h i (by omega)
    have k := hD.K i
    show pkl bd (nN D.K) ht i + (bd (ht * 5 + i)).toInt64 * (nI (D.K i)).toInt64 = lN (sN P D.K i + P i * D.K i)
    rw [ih (by omega), h2, nI_l (by omega), nI_l (by omega), lN_mul, lN_add]
theorem psh_n {bd : Ar} {P sh : Nat → Nat} {D : Dt} (hD : D.ok) (hs : ∀ j, sh j ≤ 10000) {ht e n : Nat} (h : ∀ j, j < n → P j ≤ 6 ∧ bd (ht * 5 + j) = nI (P j)) : ∀ i, i ≤ n → psh bd (nN D.K) (nN sh) ht e i = lN (s3 P D.K sh e i) := by
  intro i
  induction i with
  | zero => intro _; rfl
  | succ i ih =>
    intro hi
    obtain ⟨h1, h2⟩ := h i (by omega)
    have k := hD.K i
    have hs1 := hs (4 * i + e)
    show psh bd (nN D.K) (nN sh) ht e i + (bd (ht * 5 + i)).toInt64 * (nI (D.K i)).toInt64 * (nI (sh (i * 4 + e))).toInt64 = lN (s3 P D.K sh e i + P i * D.K i * sh (4 * i + e))
    rw [Nat.mul_comm i 4, ih (by omega), h2, nI_l (by omega), nI_l (by omega), nI_l (by omega), lN_mul, lN_mul, lN_add]
def euc : Nat → Nat → Nat → Nat
  | 0, a, _ => a
  | m + 1, a, b => if b = 0 then a else euc m b (a % b)
theorem euc_gcd : ∀ (k a b : Nat), b < 2 ^ k → ∀ m, 2 * k + 1 ≤ m → euc m a b = Nat.gcd a b := by
  intro k
  induction k with
  | zero =>
    intro a b hb m hm
    obtain rfl : b = 0 := by omega
    obtain ⟨m, rfl⟩ : ∃ q, m = q + 1 := ⟨m - 1, by omega⟩
    show (if (0 : Nat) = 0 then a else _) = _
    rw [if_pos rfl, Nat.gcd_zero_right]
  | succ k ih =>
    intro a b hb m hm
    obtain ⟨m, rfl⟩ : ∃ q, m = q + 2 := ⟨m - 2, by omega⟩
    by_cases h0 : b = 0
    · simp only [euc]; rw [if_pos h0, h0, Nat.gcd_zero_right]
    · have h1 := Nat.mod_lt a (show 0 < b by omega)
      have g1 : Nat.gcd a b = Nat.gcd b (a % b) := by rw [Nat.gcd_comm a b, Nat.gcd_rec b a, Nat.gcd_comm]
      show (if b = 0 then a else (if a % b = 0 then b else euc m (a % b) (b % (a % b)))) = Nat.gcd a b
      rw [if_neg h0, g1]
      by_cases h2 : a % b = 0
      · rw [if_pos h2, h2, Nat.gcd_zero_right]
      · rw [if_neg h2]
        generalize a % b = r at *
        have h3 := Nat.mod_lt b (show 0 < r by omega)
        have h4 : r * (b / r) + b % r = b := Nat.div_add_mod b r
        have h5 : 1 ≤ b / r := (Nat.one_le_div_iff (by omega)).mpr (by omega)
        have h6 : r * 1 ≤ r * (b / r) := Nat.mul_le_mul_left r h5
        have h7 : 2 ^ (k + 1) = 2 * 2 ^ k := by rw [Nat.pow_succ, Nat.mul_comm]
        rw [ih r (b % r) (by omega) m (by omega), Nat.gcd_comm b r, Nat.gcd_rec r b, Nat.gcd_comm]
theorem cdF_euc : ∀ (m a b : Nat), a < 2 ^ 63 → b < 2 ^ 63 → cdF m (lN a) (lN b) = lN (euc m a b) := by
  intro m
  induction m with
  | zero => intro a b _ _; rfl
  | succ m ih =>
    intro a b ha hb
    simp only [cdF, euc]
    by_cases h : b = 0
    · rw [if_pos h, if_pos (show lN b = 0 from by rw [h]; rfl)]
    · rw [if_neg h, if_neg (c := lN b = 0) (fun q => h ((pk_lEQ (a := b) (b := 0) hb (by decide)).mp q)), pk_lRem ha (by omega) hb]
      exact ih b (a % b) hb (Nat.lt_of_lt_of_le (Nat.mod_lt a (by omega)) (Nat.le_of_lt hb))
theorem cdv_gcd {a b : Nat} (ha : a < 2 ^ 40) (hb : b < 2 ^ 40) (h0 : 0 < b) : cdv (lN a) (lN b) = lN (Nat.gcd a b) := by
  have e : cdF 100 (lN a) (lN b) = lN (Nat.gcd a b) := by
    rw [cdF_euc 100 a b (by omega) (by omega), euc_gcd 40 a b hb 100 (by decide)]
  have g0 : 0 < Nat.gcd a b := Nat.gcd_pos_of_pos_right a h0
  have g1 : Nat.gcd a b ≤ b := Nat.gcd_le_right a h0
  simp only [cdv]
  rw [e]
  by_cases q : 1 < Nat.gcd a b
  · rw [if_pos (c := (1 : Int64) < lN (Nat.gcd a b)) ((pk_lLT (a := 1) (by decide) (by omega)).mpr q)]
  · rw [if_neg (c := (1 : Int64) < lN (Nat.gcd a b)) (fun z => q ((pk_lLT (a := 1) (by decide) (by omega)).mp z)), show Nat.gcd a b = 1 by omega]
    rfl
