/-! ===== numbers ===== -/
theorem ix2 (a b : Nat) : nI a + nI b = nI (a + b) := nI_add a b
theorem ix3 (a b c : Nat) : nI a + nI b + nI c = nI (a + b + c) := by rw [nI_add, nI_add]
theorem ixm (a b : Nat) : nI a * nI b = nI (a * b) := pk_mul a b
theorem ixma (a b c : Nat) : nI a * nI b + nI c = nI (a * b + c) := by rw [pk_mul, nI_add]
theorem inc1 (i : Nat) : nI i + Int32.ofInt 1 = nI (i + 1) := by
  rw [show Int32.ofInt 1 = (1 : Int32) from rfl]; exact nI_1 i
/-- row k + 1 of the sums, its first i columns copied from row k -/
def stl (f : Ar) (k i : Nat) : Ar := fun j => if (k + 1) * 12 ≤ j ∧ j < (k + 1) * 12 + i then f (j - 12) else f j
theorem stl_0 (f : Ar) (k : Nat) : stl f k 0 = f := by
  funext j; simp only [stl]; rw [if_neg (by omega)]
theorem stl_s (f : Ar) (k i : Nat) (hi : i < 12) : upd (stl f k i) (k * 12 + 12 + i) (stl f k i (k * 12 + i)) = stl f k (i + 1) := by
  funext j
  simp only [upd, stl]
  by_cases h1 : j = k * 12 + 12 + i
  · subst h1
    rw [if_pos rfl, if_neg (by omega), if_pos (by omega)]
    congr 1; omega
  · rw [if_neg h1]
    by_cases h2 : (k + 1) * 12 ≤ j ∧ j < (k + 1) * 12 + i
    · rw [if_pos h2, if_pos (by omega)]
    · rw [if_neg h2, if_neg (by omega)]
/-- .. its first i columns grown by one bundle of good k -/
def adb (f sb : Ar) (k i : Nat) : Ar := fun j => if (k + 1) * 12 ≤ j ∧ j < (k + 1) * 12 + i then f j + sb (j - 12) else f j
theorem adb_0 (f sb : Ar) (k : Nat) : adb f sb k 0 = f := by
  funext j; simp only [adb]; rw [if_neg (by omega)]
theorem adb_s (f sb : Ar) (k i : Nat) (hi : i < 12) : upd (adb f sb k i) (k * 12 + 12 + i) (adb f sb k i (k * 12 + 12 + i) + sb (k * 12 + i)) = adb f sb k (i + 1) := by
  funext j
  simp only [upd, adb]
  by_cases h1 : j = k * 12 + 12 + i
  · subst h1
    rw [if_pos rfl, if_neg (by omega), if_pos (by omega)]
    congr 2; omega
  · rw [if_neg h1]
    by_cases h2 : (k + 1) * 12 ≤ j ∧ j < (k + 1) * 12 + i
    · rw [if_pos h2, if_pos (by omega)]
    · rw [if_neg h2, if_neg (by omega)]
/-- the rules that a row of sums breaks, of the first i -/
def brk (f : Ar) (b : Nat) : Nat → Int32
  | 0 => 0
  | i + 1 => if f (b + i) ≤ 0 then brk f b i else brk f b i ||| (1 : Int32) <<< (nI i &&& 31)
/-- what good k's bundle adds to column r -/
def pbv (g : sG) (h : sH) (ht k r : Nat) : Int32 :=
  if r = 0 then -(g.2.1 k) else if r = 1 then g.2.1 k else if r = 10 then 1 else if r = 11 then g.2.2.1 k
  else if r % 2 = 0 then g.2.1 k * (g.2.2.2.2.2.2 (k * 4 + (r - 2) / 2) - h.2.2.2.2.1 (ht * 4 + (r - 2) / 2))
  else g.2.1 k * (h.2.2.2.1 (ht * 4 + (r - 2) / 2) - g.2.2.2.2.2.1 (k * 4 + (r - 2) / 2))
def lel (g : sG) (h : sH) (ht k : Nat) (sb : Ar) (e : Nat) : Ar := fun j => if k * 12 + 2 ≤ j ∧ j < k * 12 + 2 + 2 * e then pbv g h ht k (j - k * 12) else sb j
theorem lel_0 (g : sG) (h : sH) (ht k : Nat) (sb : Ar) : lel g h ht k sb 0 = sb := by
  funext j; simp only [lel]; rw [if_neg (by omega)]
theorem lel_s (g : sG) (h : sH) (ht k : Nat) (sb : Ar) (e : Nat) (he : e < 4) : upd (upd (lel g h ht k sb e) (k * 12 + 2 + 2 * e) (g.2.1 k * (g.2.2.2.2.2.2 (k * 4 + e) - h.2.2.2.2.1 (ht * 4 + e)))) (k * 12 + 2 + 2 * e + 1) (g.2.1 k * (h.2.2.2.1 (ht * 4 + e) - g.2.2.2.2.2.1 (k * 4 + e))) = lel g h ht k sb (e + 1) := by
  funext j
  simp only [upd, lel]
  by_cases h1 : j = k * 12 + 2 + 2 * e + 1
  · subst h1
    rw [if_pos rfl, if_pos (by omega)]
    have e1 : k * 12 + 2 + 2 * e + 1 - k * 12 = 3 + 2 * e := by omega
    have e2 : (3 + 2 * e - 2) / 2 = e := by omega
    rw [e1]
    simp only [pbv]
    rw [if_neg (by omega), if_neg (by omega), if_neg (by omega), if_neg (by omega), if_neg (by omega), e2]
  · rw [if_neg h1]
    by_cases h2 : j = k * 12 + 2 + 2 * e
    · subst h2
      rw [if_pos rfl, if_pos (by omega)]
      have e1 : k * 12 + 2 + 2 * e - k * 12 = 2 + 2 * e := by omega
      have e2 : (2 + 2 * e - 2) / 2 = e := by omega
      rw [e1]
      simp only [pbv]
      rw [if_neg (by omega), if_neg (by omega), if_neg (by omega), if_neg (by omega), if_pos (by omega), e2]
    · rw [if_neg h2]
      by_cases h3 : k * 12 + 2 ≤ j ∧ j < k * 12 + 2 + 2 * e
      · rw [if_pos h3, if_pos (by omega)]
      · rw [if_neg h3, if_neg (by omega)]
/-- all columns of the first n goods -/
def pbf (g : sG) (h : sH) (ht : Nat) (sb : Ar) (n : Nat) : Ar := fun j => if j < n * 12 then pbv g h ht (j / 12) (j % 12) else sb j
theorem pbf_0 (g : sG) (h : sH) (ht : Nat) (sb : Ar) : pbf g h ht sb 0 = sb := by
  funext j; simp only [pbf]; rw [if_neg (by omega)]
theorem pbf_s (g : sG) (h : sH) (ht : Nat) (sb : Ar) (n : Nat) : lel g h ht n (upd (upd (upd (upd (pbf g h ht sb n) (n * 12 + 0) (-(g.2.1 n))) (n * 12 + 1) (g.2.1 n)) (n * 12 + 10) 1) (n * 12 + 11) (g.2.2.1 n)) 4 = pbf g h ht sb (n + 1) := by
  funext j
  simp only [upd, lel, pbf]
  by_cases h0 : j < n * 12
  · rw [if_neg (by omega), if_neg (by omega), if_neg (by omega), if_neg (by omega), if_neg (by omega), if_pos h0, if_pos (by omega)]
  · by_cases h1 : j < (n + 1) * 12
    · obtain ⟨r, rfl⟩ : ∃ r, j = n * 12 + r := ⟨j - n * 12, by omega⟩
      have hr : r < 12 := by omega
      have e1 : (n * 12 + r) / 12 = n := by omega
      have e2 : (n * 12 + r) % 12 = r := by omega
      rw [if_pos h1, e1, e2]
      by_cases h2 : n * 12 + 2 ≤ n * 12 + r ∧ n * 12 + r < n * 12 + 2 + 2 * 4
      · rw [if_pos h2, show n * 12 + r - n * 12 = r by omega]
      · rw [if_neg h2]
        have h3 : r = 0 ∨ r = 1 ∨ r = 10 ∨ r = 11 := by omega
        rcases h3 with rfl | rfl | rfl | rfl
        · rw [if_neg (by omega), if_neg (by omega), if_neg (by omega), if_pos rfl]; rfl
        · rw [if_neg (by omega), if_neg (by omega), if_pos rfl]; rfl
        · rw [if_neg (by omega), if_pos rfl]; rfl
        · rw [if_pos rfl]; rfl
    · rw [if_neg (by omega), if_neg (by omega), if_neg (by omega), if_neg (by omega), if_neg (by omega), if_neg h0, if_neg h1]
def rmin (g : sG) (k : Nat) : Int32 := if g.2.2.2.2.1 k < g.2.2.2.1 k then g.2.2.2.2.1 k else g.2.2.2.1 k
def rmf (g : sG) (sr : Ar) (n : Nat) : Ar := fun j => if j < n then rmin g j else sr j
theorem rmf_0 (g : sG) (sr : Ar) : rmf g sr 0 = sr := by
  funext j; simp only [rmf]; rw [if_neg (by omega)]
theorem rmf_s (g : sG) (sr : Ar) (n : Nat) : upd (rmf g sr n) n (rmin g n) = rmf g sr (n + 1) := by
  funext j
  simp only [upd, rmf]
  by_cases h1 : j = n
  · subst h1; rw [if_pos rfl, if_pos (by omega)]
  · rw [if_neg h1]
    by_cases h2 : j < n
    · rw [if_pos h2, if_pos (by omega)]
    · rw [if_neg h2, if_neg (by omega)]
def ldR (f : Ar) (h : sH) (ht : Nat) : Ar := upd (upd (upd f 0 (h.2.1 ht)) 1 (-(h.2.2.1 ht))) 10 (-(h.2.2.2.2.2.1 ht))
/-! Goods.room -/
theorem m_G_room {g : sG} {h : sH} {p : sP} {c : sC} {t : tk_W} {k : Nat} (hk : k < 5) : tk_M y_G_room w_G_room 0 0 0 [.ref 1, .int (nI k)] (wd g h p c t) (tk_det (.inl (some (.int (rmin g k)))) (wd g h p c t)) := by
  refine tk_M.of (lv := [some (.ref 1), some (.int (nI k))]) (by decide) (Nat.le_of_ble_eq_true rfl) rfl ?_
  refine tk_aload_n (pc := 0) d_G_room_0 rfl ?_
  refine tk_get (pc := 1) d_G_room_1 f_G_18 rfl rfl ?_
  refine tk_iload_n (pc := 4) d_G_room_4 rfl ?_
  refine tk_iald (pc := 5) k d_G_room_5 rfl rfl hk (by decide) ?_
  refine tk_aload_n (pc := 6) d_G_room_6 rfl ?_
  refine tk_get (pc := 7) d_G_room_7 f_G_21 rfl rfl ?_
  refine tk_iload_n (pc := 10) d_G_room_10 rfl ?_
  refine tk_iald (pc := 11) k d_G_room_11 rfl rfl hk (by decide) ?_
  refine tk_mmin (pc := 12) d_G_room_12 z_G_min z_min1 z_math z_min2 (Nat.le_of_ble_eq_true rfl) (Nat.le_of_ble_eq_true rfl) (Nat.le_of_ble_eq_true rfl) ?_
  exact tk_ireturn (pc := 15) d_G_room_15 rfl rfl (Nat.le_of_ble_eq_true rfl) (Nat.le_of_ble_eq_true rfl) ⟨rfl, rfl⟩
