/-! ===== the data that class and reference share, as numbers ===== -/
def nN (f : Nat → Nat) : Ar := fun j => nI (f j)
def uN (f : Nat → Nat) (i x : Nat) : Nat → Nat := fun j => if j = i then x else f j
theorem nN_u (f : Nat → Nat) (i x : Nat) : upd (nN f) i (nI x) = nN (uN f i x) := by
  funext j
  simp only [upd, nN, uN]
  split <;> rfl
abbrev Dt : Type := Nat × (Nat → Nat) × (Nat → Nat) × (Nat → Nat) × (Nat → Nat) × (Nat → Nat) × (Nat → Nat) × Nat × (Nat → Nat) × (Nat → Nat) × (Nat → Nat) × (Nat → Nat) × (Nat → Nat)
abbrev Dt.G (D : Dt) : Nat := D.1
abbrev Dt.K (D : Dt) : (Nat → Nat) := D.2.1
abbrev Dt.C (D : Dt) : (Nat → Nat) := D.2.2.1
abbrev Dt.S (D : Dt) : (Nat → Nat) := D.2.2.2.1
abbrev Dt.L (D : Dt) : (Nat → Nat) := D.2.2.2.2.1
abbrev Dt.A (D : Dt) : (Nat → Nat) := D.2.2.2.2.2.1
abbrev Dt.B (D : Dt) : (Nat → Nat) := D.2.2.2.2.2.2.1
abbrev Dt.H (D : Dt) : Nat := D.2.2.2.2.2.2.2.1
abbrev Dt.LE (D : Dt) : (Nat → Nat) := D.2.2.2.2.2.2.2.2.1
abbrev Dt.GR (D : Dt) : (Nat → Nat) := D.2.2.2.2.2.2.2.2.2.1
abbrev Dt.HL (D : Dt) : (Nat → Nat) := D.2.2.2.2.2.2.2.2.2.2.1
abbrev Dt.HU (D : Dt) : (Nat → Nat) := D.2.2.2.2.2.2.2.2.2.2.2.1
abbrev Dt.MO (D : Dt) : (Nat → Nat) := D.2.2.2.2.2.2.2.2.2.2.2.2
def Dt.ok (D : Dt) : Prop := (D.G ≤ 5) ∧ (∀ j, D.K j ≤ 1000) ∧ (∀ j, j < D.G → 1 ≤ D.K j) ∧ (∀ j, D.C j ≤ 100000) ∧ (∀ j, D.S j ≤ 6) ∧ (∀ j, D.L j ≤ 6) ∧ (∀ j, D.A j ≤ 10000) ∧ (∀ j, D.B j ≤ 10000) ∧ (D.H ≤ 4) ∧ (∀ j, D.LE j ≤ 100000) ∧ (∀ j, D.GR j ≤ 100000) ∧ (∀ j, D.HL j ≤ 10000) ∧ (∀ j, D.HU j ≤ 10000) ∧ (∀ j, D.MO j ≤ 30) ∧ (∀ j, 4 * D.H ≤ j → D.HL j = 0) ∧ (∀ j, j < D.H → 1 ≤ D.LE j)
theorem Dt.ok.G {D : Dt} (h : D.ok) : D.G ≤ 5 := h.1
theorem Dt.ok.K {D : Dt} (h : D.ok) : ∀ j, D.K j ≤ 1000 := h.2.1
theorem Dt.ok.K1 {D : Dt} (h : D.ok) : ∀ j, j < D.G → 1 ≤ D.K j := h.2.2.1
theorem Dt.ok.C {D : Dt} (h : D.ok) : ∀ j, D.C j ≤ 100000 := h.2.2.2.1
theorem Dt.ok.S {D : Dt} (h : D.ok) : ∀ j, D.S j ≤ 6 := h.2.2.2.2.1
theorem Dt.ok.L {D : Dt} (h : D.ok) : ∀ j, D.L j ≤ 6 := h.2.2.2.2.2.1
theorem Dt.ok.A {D : Dt} (h : D.ok) : ∀ j, D.A j ≤ 10000 := h.2.2.2.2.2.2.1
theorem Dt.ok.B {D : Dt} (h : D.ok) : ∀ j, D.B j ≤ 10000 := h.2.2.2.2.2.2.2.1
theorem Dt.ok.H {D : Dt} (h : D.ok) : D.H ≤ 4 := h.2.2.2.2.2.2.2.2.1
theorem Dt.ok.LE {D : Dt} (h : D.ok) : ∀ j, D.LE j ≤ 100000 := h.2.2.2.2.2.2.2.2.2.1
theorem Dt.ok.GR {D : Dt} (h : D.ok) : ∀ j, D.GR j ≤ 100000 := h.2.2.2.2.2.2.2.2.2.2.1
theorem Dt.ok.HL {D : Dt} (h : D.ok) : ∀ j, D.HL j ≤ 10000 := h.2.2.2.2.2.2.2.2.2.2.2.1
theorem Dt.ok.HU {D : Dt} (h : D.ok) : ∀ j, D.HU j ≤ 10000 := h.2.2.2.2.2.2.2.2.2.2.2.2.1
theorem Dt.ok.MO {D : Dt} (h : D.ok) : ∀ j, D.MO j ≤ 30 := h.2.2.2.2.2.2.2.2.2.2.2.2.2.1
theorem Dt.ok.HL0 {D : Dt} (h : D.ok) : ∀ j, 4 * D.H ≤ j → D.HL j = 0 := h.2.2.2.2.2.2.2.2.2.2.2.2.2.2.1
theorem Dt.ok.LE1 {D : Dt} (h : D.ok) : ∀ j, j < D.H → 1 ≤ D.LE j := h.2.2.2.2.2.2.2.2.2.2.2.2.2.2.2
def Dt.R (D : Dt) (k : Nat) : Nat := if D.L k < D.S k then D.L k else D.S k
theorem Dt.ok.R {D : Dt} (h : D.ok) (k : Nat) : D.R k ≤ 6 := by
  have := h.S k; have := h.L k
  simp only [Dt.R]; split <;> omega
theorem ok_tpm {D : Dt} (h : D.ok) (k : Nat) : tpm (nN D.S) (nN D.L) k = nI (D.R k) := by
  have h1 := h.S k; have h2 := h.L k
  show (if nI (D.L k) ≤ nI (D.S k) then nI (D.L k) else nI (D.S k)) = nI (if D.L k < D.S k then D.L k else D.S k)
  by_cases q : D.L k ≤ D.S k
  · rw [if_pos (nI_le q (by omega))]
    by_cases q2 : D.L k < D.S k
    · rw [if_pos q2]
    · rw [if_neg q2, show D.L k = D.S k by omega]
  · rw [if_neg (nI_ge (by omega) (by omega)), if_neg (by omega)]
theorem ok_rmin {D : Dt} (h : D.ok) (k : Nat) {a b c d e : Ar} {n : Int32} : rmin (n, a, b, nN D.S, nN D.L, d, e) k = nI (D.R k) := by
  have h1 := h.S k; have h2 := h.L k
  show (if nI (D.L k) < nI (D.S k) then nI (D.L k) else nI (D.S k)) = nI (if D.L k < D.S k then D.L k else D.S k)
  by_cases q2 : D.L k < D.S k
  · rw [if_pos (nI_lt q2 (by omega)), if_pos q2]
  · rw [if_neg (nI_nlt (by omega) (by omega)), if_neg q2]
def sN (v f : Nat → Nat) : Nat → Nat
  | 0 => 0
  | i + 1 => sN v f i + v i * f i
def s3 (v k f : Nat → Nat) (e : Nat) : Nat → Nat
  | 0 => 0
  | i + 1 => s3 v k f e i + v i * k i * f (4 * i + e)
theorem sN_le {v f : Nat → Nat} {M : Nat} : ∀ n, (∀ j, j < n → v j * f j ≤ M) → sN v f n ≤ n * M := by
  intro n
  induction n with
  | zero => intro _; simp [sN]
  | succ n ih =>
    intro h
    have := ih (fun j hj => h j (by omega))
    have := h n (by omega)
    show sN v f n + v n * f n ≤ (n + 1) * M
    rw [show (n + 1) * M = n * M + M from Nat.succ_mul n M]; omega
theorem s3_le {v k f : Nat → Nat} {e M : Nat} : ∀ n, (∀ j, j < n → v j * k j * f (4 * j + e) ≤ M) → s3 v k f e n ≤ n * M := by
  intro n
  induction n with
  | zero => intro _; simp [s3]
  | succ n ih =>
    intro h
    have := ih (fun j hj => h j (by omega))
    have := h n (by omega)
    show s3 v k f e n + v n * k n * f (4 * n + e) ≤ (n + 1) * M
    rw [show (n + 1) * M = n * M + M from Nat.succ_mul n M]; omega
theorem sN_congr {v w f : Nat → Nat} : ∀ n, (∀ j, j < n → v j = w j) → sN v f n = sN w f n := by
  intro n
  induction n with
  | zero => intro _; rfl
  | succ n ih =>
    intro h
    simp only [sN]
    rw [ih (fun j hj => h j (by omega)), h n (by omega)]
theorem s3_congr {v w k f : Nat → Nat} {e : Nat} : ∀ n, (∀ j, j < n → v j = w j) → s3 v k f e n = s3 w k f e n := by
  intro n
  induction n with
  | zero => intro _; rfl
  | succ n ih =>
    intro h
    simp only [s3]
    rw [ih (fun j hj => h j (by omega)), h n (by omega)]
section BDS
variable {D : Dt} {v : Nat → Nat}
theorem bd_K (h : D.ok) {n : Nat} (hn : n ≤ 5) (hv : ∀ j, j < n → v j ≤ 6) : sN v D.K n ≤ 30000 := by
  have := sN_le (v := v) (f := D.K) (M := 6000) n (fun j hj => Nat.le_trans (Nat.mul_le_mul (hv j hj) (h.K j)) (by decide))
  omega
theorem bd_C (h : D.ok) {n : Nat} (hn : n ≤ 5) (hv : ∀ j, j < n → v j ≤ 6) : sN v D.C n ≤ 3000000 := by
  have := sN_le (v := v) (f := D.C) (M := 600000) n (fun j hj => Nat.le_trans (Nat.mul_le_mul (hv j hj) (h.C j)) (by decide))
  omega
theorem bd_1 {n : Nat} (hn : n ≤ 5) (hv : ∀ j, j < n → v j ≤ 6) : sN v (fun _ => 1) n ≤ 30 := by
  have := sN_le (v := v) (f := fun _ => 1) (M := 6) n (fun j hj => by have := hv j hj; omega)
  omega
theorem bd_B (h : D.ok) {n e : Nat} (hn : n ≤ 5) (hv : ∀ j, j < n → v j ≤ 6) : s3 v D.K D.B e n ≤ 300000000 := by
  have := s3_le (v := v) (k := D.K) (f := D.B) (e := e) (M := 60000000) n (fun j hj => Nat.le_trans (Nat.mul_le_mul (Nat.mul_le_mul (hv j hj) (h.K j)) (h.B _)) (by decide))
  omega
theorem bd_A (h : D.ok) {n e : Nat} (hn : n ≤ 5) (hv : ∀ j, j < n → v j ≤ 6) : s3 v D.K D.A e n ≤ 300000000 := by
  have := s3_le (v := v) (k := D.K) (f := D.A) (e := e) (M := 60000000) n (fun j hj => Nat.le_trans (Nat.mul_le_mul (Nat.mul_le_mul (hv j hj) (h.K j)) (h.A _)) (by decide))
  omega
end BDS
/-- does the charge v break rule i of heat ht? -/
def vio (D : Dt) (ht : Nat) (v : Nat → Nat) (i : Nat) : Bool :=
  if i = 0 then decide (sN v D.K D.G < D.LE ht) else if i = 1 then decide (D.GR ht < sN v D.K D.G) else if i = 10 then decide (D.MO ht < sN v (fun _ => 1) D.G)
  else if i % 2 = 0 then decide (D.HU (4 * ht + (i - 2) / 2) * sN v D.K D.G < s3 v D.K D.B ((i - 2) / 2) D.G)
  else decide (s3 v D.K D.A ((i - 2) / 2) D.G < D.HL (4 * ht + (i - 2) / 2) * sN v D.K D.G)
theorem vio_e (D : Dt) (ht : Nat) (v : Nat → Nat) (e : Nat) (he : e < 4) : vio D ht v (2 + 2 * e) = decide (D.HU (4 * ht + e) * sN v D.K D.G < s3 v D.K D.B e D.G) := by
  simp only [vio]
  rw [if_neg (by omega), if_neg (by omega), if_neg (by omega), if_pos (by omega), show (2 + 2 * e - 2) / 2 = e by omega]
theorem vio_o (D : Dt) (ht : Nat) (v : Nat → Nat) (e : Nat) (he : e < 4) : vio D ht v (3 + 2 * e) = decide (s3 v D.K D.A e D.G < D.HL (4 * ht + e) * sN v D.K D.G) := by
  simp only [vio]
  rw [if_neg (by omega), if_neg (by omega), if_neg (by omega), if_neg (by omega), show (3 + 2 * e - 2) / 2 = e by omega]
theorem vio_congr {D : Dt} {ht : Nat} {v w : Nat → Nat} (h : ∀ j, j < D.G → v j = w j) (i : Nat) : vio D ht v i = vio D ht w i := by
  simp only [vio]
  rw [sN_congr (f := D.K) D.G h, sN_congr (f := fun _ => 1) D.G h, s3_congr (k := D.K) (f := D.B) D.G h, s3_congr (k := D.K) (f := D.A) D.G h]
/-- the bit of rule i -/
def bz (q : Nat → Bool) (i : Nat) : Int32 := if q i = true then nI (2 ^ i) else 0
/-- the rules of q, in the reference's order: 0, 1, 10, then the elements up to e -/
def rbk (q : Nat → Bool) : Nat → Int32
  | 0 => (bz q 0 ||| bz q 1) ||| bz q 10
  | e + 1 => (rbk q e ||| bz q (2 + 2 * e)) ||| bz q (3 + 2 * e)
/-- .. as a number -/
def vn (q : Nat → Bool) : Nat → Nat
  | 0 => 0
  | i + 1 => if q i = true then vn q i ||| 2 ^ i else vn q i
theorem vn_lt (q : Nat → Bool) : ∀ i, vn q i < 2 ^ i := by
  intro i
  induction i with
  | zero => simp [vn]
  | succ i ih =>
    simp only [vn]
    split
    · exact Nat.or_lt_two_pow (Nat.lt_trans ih (Nat.pow_lt_pow_right (by decide) (Nat.lt_succ_self i))) (Nat.pow_lt_pow_right (by decide) (Nat.lt_succ_self i))
    · exact Nat.lt_trans ih (Nat.pow_lt_pow_right (by decide) (Nat.lt_succ_self i))
theorem vn_bz (q : Nat → Bool) (i : Nat) : nI (vn q (i + 1)) = nI (vn q i) ||| bz q i := by
  simp only [vn, bz]
  by_cases h : q i = true
  · rw [if_pos h, if_pos h, nI_or]
  · rw [if_neg h, if_neg h, show (0 : Int32) = nI 0 from rfl, nI_or, Nat.or_zero]
theorem rbk_vn (q : Nat → Bool) : rbk q 4 = nI (vn q 11) := by
  rw [vn_bz, vn_bz, vn_bz, vn_bz, vn_bz, vn_bz, vn_bz, vn_bz, vn_bz, vn_bz, vn_bz]
  rw [show nI (vn q 0) = 0 from rfl, Int32.zero_or]
  show ((((((((bz q 0 ||| bz q 1) ||| bz q 10) ||| bz q 2) ||| bz q 3) ||| bz q 4) ||| bz q 5) ||| bz q 6 ||| bz q 7) ||| bz q 8) ||| bz q 9 = _
  ac_rfl
theorem brn_vn (f : Ar) (b : Nat) (q : Nat → Bool) : ∀ i, (∀ j, j < i → (f (b + j) ≤ 0 ↔ q j = false)) → brn f b i = vn q i := by
  intro i
  induction i with
  | zero => intro _; rfl
  | succ i ih =>
    intro h
    simp only [brn, vn]
    have h0 := ih (fun j hj => h j (by omega))
    have h1 := h i (by omega)
    by_cases c : f (b + i) ≤ 0
    · rw [if_pos c, if_neg (by rw [h1.mp c]; decide), h0]
    · have : q i = true := by
        cases hq : q i
        · exact absurd (h1.mpr hq) c
        · rfl
      rw [if_neg c, if_pos this, h0]
