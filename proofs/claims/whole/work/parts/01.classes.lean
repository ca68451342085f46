def R_CP : String := "ChargePlans"
def F_CP : u_T := fun k => match k with
  | 0 => ("ChargePlans", "goods", "LChargePlans$Goods;", true)
  | 1 => ("ChargePlans", "heats", "LChargePlans$Heats;", true)
  | 2 => ("ChargePlans", "planning", "LChargePlans$Planning;", true)
  | _ => ("ChargePlans", "clashing", "LChargePlans$Clashing;", true)
def t_CP : Nat → FieldType := fun k => match k with
  | 0 => .object "ChargePlans$Goods"
  | 1 => .object "ChargePlans$Heats"
  | 2 => .object "ChargePlans$Planning"
  | _ => .object "ChargePlans$Clashing"
theorem n_CP : ∀ a, a < 4 → ∀ b, b < 4 → a ≠ b → (F_CP a).2.1 ≠ (F_CP b).2.1 := by decide +kernel
theorem t_CP_ok : ∀ k, k < 4 → parseFieldDescriptor (F_CP k).2.2.1 = some (t_CP k) := by decide +kernel
def R_G : String := "ChargePlans$Goods"
def F_G : u_T := fun k => match k with
  | 0 => ("ChargePlans$Goods", "count", "I", false)
  | 1 => ("ChargePlans$Goods", "kilos", "[I", true)
  | 2 => ("ChargePlans$Goods", "cents", "[I", true)
  | 3 => ("ChargePlans$Goods", "stock", "[I", true)
  | 4 => ("ChargePlans$Goods", "limit", "[I", true)
  | 5 => ("ChargePlans$Goods", "lowShare", "[I", true)
  | _ => ("ChargePlans$Goods", "highShare", "[I", true)
def t_G : Nat → FieldType := fun k => match k with
  | 0 => .int
  | 1 => .array .int
  | 2 => .array .int
  | 3 => .array .int
  | 4 => .array .int
  | 5 => .array .int
  | _ => .array .int
theorem n_G : ∀ a, a < 7 → ∀ b, b < 7 → a ≠ b → (F_G a).2.1 ≠ (F_G b).2.1 := by decide +kernel
theorem t_G_ok : ∀ k, k < 7 → parseFieldDescriptor (F_G k).2.2.1 = some (t_G k) := by decide +kernel
def R_H : String := "ChargePlans$Heats"
def F_H : u_T := fun k => match k with
  | 0 => ("ChargePlans$Heats", "count", "I", false)
  | 1 => ("ChargePlans$Heats", "low", "[I", true)
  | 2 => ("ChargePlans$Heats", "high", "[I", true)
  | 3 => ("ChargePlans$Heats", "lowShare", "[I", true)
  | 4 => ("ChargePlans$Heats", "highShare", "[I", true)
  | 5 => ("ChargePlans$Heats", "mostBundles", "[I", true)
  | 6 => ("ChargePlans$Heats", "planCents", "[I", true)
  | _ => ("ChargePlans$Heats", "bundles", "[I", true)
def t_H : Nat → FieldType := fun k => match k with
  | 0 => .int
  | 1 => .array .int
  | 2 => .array .int
  | 3 => .array .int
  | 4 => .array .int
  | 5 => .array .int
  | 6 => .array .int
  | _ => .array .int
theorem n_H : ∀ a, a < 8 → ∀ b, b < 8 → a ≠ b → (F_H a).2.1 ≠ (F_H b).2.1 := by decide +kernel
theorem t_H_ok : ∀ k, k < 8 → parseFieldDescriptor (F_H k).2.2.1 = some (t_H k) := by decide +kernel
def R_P : String := "ChargePlans$Planning"
def F_P : u_T := fun k => match k with
  | 0 => ("ChargePlans$Planning", "sums", "LChargePlans$Sums;", true)
  | 1 => ("ChargePlans$Planning", "charge", "[I", true)
  | 2 => ("ChargePlans$Planning", "best", "[I", true)
  | 3 => ("ChargePlans$Planning", "bestCents", "I", false)
  | 4 => ("ChargePlans$Planning", "allowed", "I", false)
  | 5 => ("ChargePlans$Planning", "steps", "I", false)
  | 6 => ("ChargePlans$Planning", "spent", "Z", false)
  | _ => ("ChargePlans$Planning", "done", "Z", false)
def t_P : Nat → FieldType := fun k => match k with
  | 0 => .object "ChargePlans$Sums"
  | 1 => .array .int
  | 2 => .array .int
  | 3 => .int
  | 4 => .int
  | 5 => .int
  | 6 => .boolean
  | _ => .boolean
theorem n_P : ∀ a, a < 8 → ∀ b, b < 8 → a ≠ b → (F_P a).2.1 ≠ (F_P b).2.1 := by decide +kernel
theorem t_P_ok : ∀ k, k < 8 → parseFieldDescriptor (F_P k).2.2.1 = some (t_P k) := by decide +kernel
def R_S : String := "ChargePlans$Sums"
def F_S : u_T := fun k => match k with
  | 0 => ("ChargePlans$Sums", "goodCount", "I", false)
  | 1 => ("ChargePlans$Sums", "room", "[I", true)
  | 2 => ("ChargePlans$Sums", "perBundle", "[I", true)
  | _ => ("ChargePlans$Sums", "rows", "[I", true)
def t_S : Nat → FieldType := fun k => match k with
  | 0 => .int
  | 1 => .array .int
  | 2 => .array .int
  | _ => .array .int
theorem n_S : ∀ a, a < 4 → ∀ b, b < 4 → a ≠ b → (F_S a).2.1 ≠ (F_S b).2.1 := by decide +kernel
theorem t_S_ok : ∀ k, k < 4 → parseFieldDescriptor (F_S k).2.2.1 = some (t_S k) := by decide +kernel
def R_C : String := "ChargePlans$Clashing"
def F_C : u_T := fun k => match k with
  | 0 => ("ChargePlans$Clashing", "sums", "LChargePlans$Sums;", true)
  | 1 => ("ChargePlans$Clashing", "seen", "[J", true)
  | _ => ("ChargePlans$Clashing", "allHold", "Z", false)
def t_C : Nat → FieldType := fun k => match k with
  | 0 => .object "ChargePlans$Sums"
  | 1 => .array .long
  | _ => .boolean
theorem n_C : ∀ a, a < 3 → ∀ b, b < 3 → a ≠ b → (F_C a).2.1 ≠ (F_C b).2.1 := by decide +kernel
theorem t_C_ok : ∀ k, k < 3 → parseFieldDescriptor (F_C k).2.2.1 = some (t_C k) := by decide +kernel
def R_M : String := "ChargePlansModel"
def F_M : u_T := fun k => match k with
  | 0 => ("ChargePlansModel", "thrown", "I", false)
  | 1 => ("ChargePlansModel", "goods", "I", false)
  | 2 => ("ChargePlansModel", "kilos", "[I", true)
  | 3 => ("ChargePlansModel", "cents", "[I", true)
  | 4 => ("ChargePlansModel", "stock", "[I", true)
  | 5 => ("ChargePlansModel", "limit", "[I", true)
  | 6 => ("ChargePlansModel", "low", "[I", true)
  | 7 => ("ChargePlansModel", "high", "[I", true)
  | 8 => ("ChargePlansModel", "heats", "I", false)
  | 9 => ("ChargePlansModel", "least", "[I", true)
  | 10 => ("ChargePlansModel", "greatest", "[I", true)
  | 11 => ("ChargePlansModel", "most", "[I", true)
  | 12 => ("ChargePlansModel", "heatLow", "[I", true)
  | 13 => ("ChargePlansModel", "heatHigh", "[I", true)
  | 14 => ("ChargePlansModel", "planCents", "[I", true)
  | 15 => ("ChargePlansModel", "plan", "[I", true)
  | 16 => ("ChargePlansModel", "asked", "Z", false)
  | 17 => ("ChargePlansModel", "spent", "Z", false)
  | 18 => ("ChargePlansModel", "steps", "I", false)
  | 19 => ("ChargePlansModel", "now", "[I", true)
  | _ => ("ChargePlansModel", "breaks", "[Z", true)
def t_M : Nat → FieldType := fun k => match k with
  | 0 => .int
  | 1 => .int
  | 2 => .array .int
  | 3 => .array .int
  | 4 => .array .int
  | 5 => .array .int
  | 6 => .array .int
  | 7 => .array .int
  | 8 => .int
  | 9 => .array .int
  | 10 => .array .int
  | 11 => .array .int
  | 12 => .array .int
  | 13 => .array .int
  | 14 => .array .int
  | 15 => .array .int
  | 16 => .boolean
  | 17 => .boolean
  | 18 => .int
  | 19 => .array .int
  | _ => .array .boolean
theorem n_M : ∀ a, a < 21 → ∀ b, b < 21 → a ≠ b → (F_M a).2.1 ≠ (F_M b).2.1 := by decide +kernel
theorem t_M_ok : ∀ k, k < 21 → parseFieldDescriptor (F_M k).2.2.1 = some (t_M k) := by decide +kernel
abbrev vwCl : List vw_C := [(R_CP, F_CP, 4), (R_G, F_G, 7), (R_H, F_H, 8), (R_P, F_P, 8), (R_S, F_S, 4), (R_C, F_C, 3), (R_M, F_M, 21)]
def tk_ncl : List Cond := [.not (.castable "java/lang/IndexOutOfBoundsException" "java/lang/IllegalStateException"), .not (.castable "java/lang/IndexOutOfBoundsException" "java/lang/IllegalArgumentException"), .not (.castable "java/lang/IndexOutOfBoundsException" "java/lang/UnsupportedOperationException"), .not (.castable "java/lang/IllegalStateException" "java/lang/IndexOutOfBoundsException"), .not (.castable "java/lang/IllegalStateException" "java/lang/IllegalArgumentException"), .not (.castable "java/lang/IllegalStateException" "java/lang/UnsupportedOperationException"), .not (.castable "java/lang/IllegalArgumentException" "java/lang/IndexOutOfBoundsException"), .not (.castable "java/lang/IllegalArgumentException" "java/lang/IllegalStateException"), .not (.castable "java/lang/IllegalArgumentException" "java/lang/UnsupportedOperationException"), .not (.castable "java/lang/UnsupportedOperationException" "java/lang/IndexOutOfBoundsException"), .not (.castable "java/lang/UnsupportedOperationException" "java/lang/IllegalStateException"), .not (.castable "java/lang/UnsupportedOperationException" "java/lang/IllegalArgumentException")]
