section
-- ===== PART A: goes FIRST, ahead of the names: the tables' words, and 'selects' of the private methods out of them =====
/-- a private method of a class that the tables say can be made, by its rows of tables_1 -/
def lw_okq (q : MethodName × Nat) : Prop := (q.1.cls ≠ "java/lang/invoke/MethodHandle" ∧ q.1.cls ≠ "java/lang/invoke/VarHandle") ∧ Cond.instantiable q.1.cls q.2 ∈ tables_1 ∧ Cond.privateMethod q.1 ∈ tables_1 ∧ Cond.instanceMethod q.1 ∈ tables_1
theorem lw_p0 : lw_okq (⟨"java/lang/Throwable", "fillInStackTrace", "(I)Ljava/lang/Throwable;"⟩, 6) := ⟨⟨by decide +kernel, by decide +kernel⟩, List.mem_of_getElem? (i := 251) (by decide +kernel), List.mem_of_getElem? (i := 249) (by decide +kernel), List.mem_of_getElem? (i := 250) (by decide +kernel)⟩
theorem lw_p1 : lw_okq (⟨"ChargePlans$Goods", "append", "(III)I"⟩, 7) := ⟨⟨by decide +kernel, by decide +kernel⟩, List.mem_of_getElem? (i := 25) (by decide +kernel), List.mem_of_getElem? (i := 304) (by decide +kernel), List.mem_of_getElem? (i := 305) (by decide +kernel)⟩
theorem lw_p2 : lw_okq (⟨"ChargePlans$Heats", "append", "(II)I"⟩, 8) := ⟨⟨by decide +kernel, by decide +kernel⟩, List.mem_of_getElem? (i := 66) (by decide +kernel), List.mem_of_getElem? (i := 379) (by decide +kernel), List.mem_of_getElem? (i := 380) (by decide +kernel)⟩
theorem lw_p3 : lw_okq (⟨"ChargePlans$Planning", "search", "(LChargePlans$Goods;LChargePlans$Heats;II)V"⟩, 8) := ⟨⟨by decide +kernel, by decide +kernel⟩, List.mem_of_getElem? (i := 109) (by decide +kernel), List.mem_of_getElem? (i := 404) (by decide +kernel), List.mem_of_getElem? (i := 405) (by decide +kernel)⟩
theorem lw_p4 : lw_okq (⟨"ChargePlans$Sums", "load", "(LChargePlans$Goods;LChargePlans$Heats;I)V"⟩, 4) := ⟨⟨by decide +kernel, by decide +kernel⟩, List.mem_of_getElem? (i := 115) (by decide +kernel), List.mem_of_getElem? (i := 408) (by decide +kernel), List.mem_of_getElem? (i := 409) (by decide +kernel)⟩
theorem lw_p5 : lw_okq (⟨"ChargePlans$Goods", "room", "(I)I"⟩, 7) := ⟨⟨by decide +kernel, by decide +kernel⟩, List.mem_of_getElem? (i := 25) (by decide +kernel), List.mem_of_getElem? (i := 412) (by decide +kernel), List.mem_of_getElem? (i := 413) (by decide +kernel)⟩
theorem lw_p6 : lw_okq (⟨"ChargePlans$Sums", "loadElements", "(LChargePlans$Goods;LChargePlans$Heats;II)V"⟩, 4) := ⟨⟨by decide +kernel, by decide +kernel⟩, List.mem_of_getElem? (i := 115) (by decide +kernel), List.mem_of_getElem? (i := 419) (by decide +kernel), List.mem_of_getElem? (i := 420) (by decide +kernel)⟩
theorem lw_p7 : lw_okq (⟨"ChargePlans$Planning", "tryNumbers", "(I)V"⟩, 8) := ⟨⟨by decide +kernel, by decide +kernel⟩, List.mem_of_getElem? (i := 109) (by decide +kernel), List.mem_of_getElem? (i := 423) (by decide +kernel), List.mem_of_getElem? (i := 424) (by decide +kernel)⟩
theorem lw_p8 : lw_okq (⟨"ChargePlans$Planning", "keepIfAllHold", "()V"⟩, 8) := ⟨⟨by decide +kernel, by decide +kernel⟩, List.mem_of_getElem? (i := 109) (by decide +kernel), List.mem_of_getElem? (i := 427) (by decide +kernel), List.mem_of_getElem? (i := 428) (by decide +kernel)⟩
theorem lw_p9 : lw_okq (⟨"ChargePlans$Sums", "broken", "()I"⟩, 4) := ⟨⟨by decide +kernel, by decide +kernel⟩, List.mem_of_getElem? (i := 115) (by decide +kernel), List.mem_of_getElem? (i := 431) (by decide +kernel), List.mem_of_getElem? (i := 432) (by decide +kernel)⟩
theorem lw_p10 : lw_okq (⟨"ChargePlans$Sums", "cents", "(I)I"⟩, 4) := ⟨⟨by decide +kernel, by decide +kernel⟩, List.mem_of_getElem? (i := 115) (by decide +kernel), List.mem_of_getElem? (i := 435) (by decide +kernel), List.mem_of_getElem? (i := 436) (by decide +kernel)⟩
theorem lw_p11 : lw_okq (⟨"ChargePlans$Sums", "settle", "(I)V"⟩, 4) := ⟨⟨by decide +kernel, by decide +kernel⟩, List.mem_of_getElem? (i := 115) (by decide +kernel), List.mem_of_getElem? (i := 439) (by decide +kernel), List.mem_of_getElem? (i := 440) (by decide +kernel)⟩
theorem lw_p12 : lw_okq (⟨"ChargePlans$Sums", "addBundle", "(I)V"⟩, 4) := ⟨⟨by decide +kernel, by decide +kernel⟩, List.mem_of_getElem? (i := 115) (by decide +kernel), List.mem_of_getElem? (i := 443) (by decide +kernel), List.mem_of_getElem? (i := 444) (by decide +kernel)⟩
theorem lw_p13 : lw_okq (⟨"ChargePlans$Planning", "givenUp", "(I)Z"⟩, 8) := ⟨⟨by decide +kernel, by decide +kernel⟩, List.mem_of_getElem? (i := 109) (by decide +kernel), List.mem_of_getElem? (i := 447) (by decide +kernel), List.mem_of_getElem? (i := 448) (by decide +kernel)⟩
theorem lw_p14 : lw_okq (⟨"ChargePlans$Sums", "tooHeavy", "(I)Z"⟩, 4) := ⟨⟨by decide +kernel, by decide +kernel⟩, List.mem_of_getElem? (i := 115) (by decide +kernel), List.mem_of_getElem? (i := 451) (by decide +kernel), List.mem_of_getElem? (i := 452) (by decide +kernel)⟩
theorem lw_p15 : lw_okq (⟨"ChargePlans$Heats", "keepPlan", "(I[II)V"⟩, 8) := ⟨⟨by decide +kernel, by decide +kernel⟩, List.mem_of_getElem? (i := 66) (by decide +kernel), List.mem_of_getElem? (i := 455) (by decide +kernel), List.mem_of_getElem? (i := 456) (by decide +kernel)⟩
def lw_privs_1 : List (MethodName × Nat) := [(⟨"java/lang/Throwable", "fillInStackTrace", "(I)Ljava/lang/Throwable;"⟩, 6), (⟨"ChargePlans$Goods", "append", "(III)I"⟩, 7), (⟨"ChargePlans$Heats", "append", "(II)I"⟩, 8), (⟨"ChargePlans$Planning", "search", "(LChargePlans$Goods;LChargePlans$Heats;II)V"⟩, 8), (⟨"ChargePlans$Sums", "load", "(LChargePlans$Goods;LChargePlans$Heats;I)V"⟩, 4), (⟨"ChargePlans$Goods", "room", "(I)I"⟩, 7), (⟨"ChargePlans$Sums", "loadElements", "(LChargePlans$Goods;LChargePlans$Heats;II)V"⟩, 4), (⟨"ChargePlans$Planning", "tryNumbers", "(I)V"⟩, 8), (⟨"ChargePlans$Planning", "keepIfAllHold", "()V"⟩, 8), (⟨"ChargePlans$Sums", "broken", "()I"⟩, 4), (⟨"ChargePlans$Sums", "cents", "(I)I"⟩, 4), (⟨"ChargePlans$Sums", "settle", "(I)V"⟩, 4), (⟨"ChargePlans$Sums", "addBundle", "(I)V"⟩, 4), (⟨"ChargePlans$Planning", "givenUp", "(I)Z"⟩, 8), (⟨"ChargePlans$Sums", "tooHeavy", "(I)Z"⟩, 4), (⟨"ChargePlans$Heats", "keepPlan", "(I[II)V"⟩, 8)]
theorem lw_r1 : ∀ q ∈ lw_privs_1, lw_okq q := List.forall_mem_cons.mpr ⟨lw_p0, List.forall_mem_cons.mpr ⟨lw_p1, List.forall_mem_cons.mpr ⟨lw_p2, List.forall_mem_cons.mpr ⟨lw_p3, List.forall_mem_cons.mpr ⟨lw_p4, List.forall_mem_cons.mpr ⟨lw_p5, List.forall_mem_cons.mpr ⟨lw_p6, List.forall_mem_cons.mpr ⟨lw_p7, List.forall_mem_cons.mpr ⟨lw_p8, List.forall_mem_cons.mpr ⟨lw_p9, List.forall_mem_cons.mpr ⟨lw_p10, List.forall_mem_cons.mpr ⟨lw_p11, List.forall_mem_cons.mpr ⟨lw_p12, List.forall_mem_cons.mpr ⟨lw_p13, List.forall_mem_cons.mpr ⟨lw_p14, List.forall_mem_cons.mpr ⟨lw_p15, fun _ h => absurd h List.not_mem_nil⟩⟩⟩⟩⟩⟩⟩⟩⟩⟩⟩⟩⟩⟩⟩⟩
theorem lw_p16 : lw_okq (⟨"ChargePlans$Heats", "hasPlan", "(I)Z"⟩, 8) := ⟨⟨by decide +kernel, by decide +kernel⟩, List.mem_of_getElem? (i := 66) (by decide +kernel), List.mem_of_getElem? (i := 473) (by decide +kernel), List.mem_of_getElem? (i := 474) (by decide +kernel)⟩
theorem lw_p17 : lw_okq (⟨"ChargePlans", "plannedKilos", "(I)J"⟩, 4) := ⟨⟨by decide +kernel, by decide +kernel⟩, List.mem_of_getElem? (i := 17) (by decide +kernel), List.mem_of_getElem? (i := 484) (by decide +kernel), List.mem_of_getElem? (i := 485) (by decide +kernel)⟩
theorem lw_p18 : lw_okq (⟨"ChargePlans", "plannedShares", "(II[I)J"⟩, 4) := ⟨⟨by decide +kernel, by decide +kernel⟩, List.mem_of_getElem? (i := 17) (by decide +kernel), List.mem_of_getElem? (i := 488) (by decide +kernel), List.mem_of_getElem? (i := 489) (by decide +kernel)⟩
theorem lw_p19 : lw_okq (⟨"ChargePlans$Clashing", "find", "(LChargePlans$Goods;LChargePlans$Heats;I)I"⟩, 3) := ⟨⟨by decide +kernel, by decide +kernel⟩, List.mem_of_getElem? (i := 168) (by decide +kernel), List.mem_of_getElem? (i := 517) (by decide +kernel), List.mem_of_getElem? (i := 518) (by decide +kernel)⟩
theorem lw_p20 : lw_okq (⟨"ChargePlans$Clashing", "walk", "(I)V"⟩, 3) := ⟨⟨by decide +kernel, by decide +kernel⟩, List.mem_of_getElem? (i := 168) (by decide +kernel), List.mem_of_getElem? (i := 522) (by decide +kernel), List.mem_of_getElem? (i := 523) (by decide +kernel)⟩
theorem lw_p21 : lw_okq (⟨"ChargePlans$Clashing", "someChargeHolds", "(I)Z"⟩, 3) := ⟨⟨by decide +kernel, by decide +kernel⟩, List.mem_of_getElem? (i := 168) (by decide +kernel), List.mem_of_getElem? (i := 529) (by decide +kernel), List.mem_of_getElem? (i := 530) (by decide +kernel)⟩
theorem lw_p22 : lw_okq (⟨"ChargePlans", "enoughLeft", "(I)Z"⟩, 4) := ⟨⟨by decide +kernel, by decide +kernel⟩, List.mem_of_getElem? (i := 17) (by decide +kernel), List.mem_of_getElem? (i := 540) (by decide +kernel), List.mem_of_getElem? (i := 541) (by decide +kernel)⟩
theorem lw_p23 : lw_okq (⟨"ChargePlansModel", "throwing", "(ZZZ)Z"⟩, 21) := ⟨⟨by decide +kernel, by decide +kernel⟩, List.mem_of_getElem? (i := 551) (by decide +kernel), List.mem_of_getElem? (i := 636) (by decide +kernel), List.mem_of_getElem? (i := 637) (by decide +kernel)⟩
theorem lw_p24 : lw_okq (⟨"ChargePlansModel", "isGood", "(I)Z"⟩, 21) := ⟨⟨by decide +kernel, by decide +kernel⟩, List.mem_of_getElem? (i := 551) (by decide +kernel), List.mem_of_getElem? (i := 644) (by decide +kernel), List.mem_of_getElem? (i := 645) (by decide +kernel)⟩
theorem lw_p25 : lw_okq (⟨"ChargePlansModel", "isHeat", "(I)Z"⟩, 21) := ⟨⟨by decide +kernel, by decide +kernel⟩, List.mem_of_getElem? (i := 551) (by decide +kernel), List.mem_of_getElem? (i := 673) (by decide +kernel), List.mem_of_getElem? (i := 674) (by decide +kernel)⟩
theorem lw_p26 : lw_okq (⟨"ChargePlansModel", "top", "(I)I"⟩, 21) := ⟨⟨by decide +kernel, by decide +kernel⟩, List.mem_of_getElem? (i := 551) (by decide +kernel), List.mem_of_getElem? (i := 686) (by decide +kernel), List.mem_of_getElem? (i := 687) (by decide +kernel)⟩
theorem lw_p27 : lw_okq (⟨"ChargePlansModel", "sum", "(II)I"⟩, 21) := ⟨⟨by decide +kernel, by decide +kernel⟩, List.mem_of_getElem? (i := 551) (by decide +kernel), List.mem_of_getElem? (i := 690) (by decide +kernel), List.mem_of_getElem? (i := 691) (by decide +kernel)⟩
theorem lw_p28 : lw_okq (⟨"ChargePlansModel", "broken", "(I)I"⟩, 21) := ⟨⟨by decide +kernel, by decide +kernel⟩, List.mem_of_getElem? (i := 551) (by decide +kernel), List.mem_of_getElem? (i := 694) (by decide +kernel), List.mem_of_getElem? (i := 695) (by decide +kernel)⟩
theorem lw_p29 : lw_okq (⟨"ChargePlansModel", "keep", "(I)V"⟩, 21) := ⟨⟨by decide +kernel, by decide +kernel⟩, List.mem_of_getElem? (i := 551) (by decide +kernel), List.mem_of_getElem? (i := 698) (by decide +kernel), List.mem_of_getElem? (i := 699) (by decide +kernel)⟩
theorem lw_p30 : lw_okq (⟨"ChargePlansModel", "hasPlan", "(I)Z"⟩, 21) := ⟨⟨by decide +kernel, by decide +kernel⟩, List.mem_of_getElem? (i := 551) (by decide +kernel), List.mem_of_getElem? (i := 710) (by decide +kernel), List.mem_of_getElem? (i := 711) (by decide +kernel)⟩
theorem lw_p31 : lw_okq (⟨"ChargePlansModel", "lookAtAll", "(I)V"⟩, 21) := ⟨⟨by decide +kernel, by decide +kernel⟩, List.mem_of_getElem? (i := 551) (by decide +kernel), List.mem_of_getElem? (i := 729) (by decide +kernel), List.mem_of_getElem? (i := 730) (by decide +kernel)⟩
def lw_privs_2 : List (MethodName × Nat) := [(⟨"ChargePlans$Heats", "hasPlan", "(I)Z"⟩, 8), (⟨"ChargePlans", "plannedKilos", "(I)J"⟩, 4), (⟨"ChargePlans", "plannedShares", "(II[I)J"⟩, 4), (⟨"ChargePlans$Clashing", "find", "(LChargePlans$Goods;LChargePlans$Heats;I)I"⟩, 3), (⟨"ChargePlans$Clashing", "walk", "(I)V"⟩, 3), (⟨"ChargePlans$Clashing", "someChargeHolds", "(I)Z"⟩, 3), (⟨"ChargePlans", "enoughLeft", "(I)Z"⟩, 4), (⟨"ChargePlansModel", "throwing", "(ZZZ)Z"⟩, 21), (⟨"ChargePlansModel", "isGood", "(I)Z"⟩, 21), (⟨"ChargePlansModel", "isHeat", "(I)Z"⟩, 21), (⟨"ChargePlansModel", "top", "(I)I"⟩, 21), (⟨"ChargePlansModel", "sum", "(II)I"⟩, 21), (⟨"ChargePlansModel", "broken", "(I)I"⟩, 21), (⟨"ChargePlansModel", "keep", "(I)V"⟩, 21), (⟨"ChargePlansModel", "hasPlan", "(I)Z"⟩, 21), (⟨"ChargePlansModel", "lookAtAll", "(I)V"⟩, 21)]
theorem lw_r2 : ∀ q ∈ lw_privs_2, lw_okq q := List.forall_mem_cons.mpr ⟨lw_p16, List.forall_mem_cons.mpr ⟨lw_p17, List.forall_mem_cons.mpr ⟨lw_p18, List.forall_mem_cons.mpr ⟨lw_p19, List.forall_mem_cons.mpr ⟨lw_p20, List.forall_mem_cons.mpr ⟨lw_p21, List.forall_mem_cons.mpr ⟨lw_p22, List.forall_mem_cons.mpr ⟨lw_p23, List.forall_mem_cons.mpr ⟨lw_p24, List.forall_mem_cons.mpr ⟨lw_p25, List.forall_mem_cons.mpr ⟨lw_p26, List.forall_mem_cons.mpr ⟨lw_p27, List.forall_mem_cons.mpr ⟨lw_p28, List.forall_mem_cons.mpr ⟨lw_p29, List.forall_mem_cons.mpr ⟨lw_p30, List.forall_mem_cons.mpr ⟨lw_p31, fun _ h => absurd h List.not_mem_nil⟩⟩⟩⟩⟩⟩⟩⟩⟩⟩⟩⟩⟩⟩⟩⟩
theorem lw_p32 : lw_okq (⟨"ChargePlansModel", "isSome", "(I)Z"⟩, 21) := ⟨⟨by decide +kernel, by decide +kernel⟩, List.mem_of_getElem? (i := 551) (by decide +kernel), List.mem_of_getElem? (i := 733) (by decide +kernel), List.mem_of_getElem? (i := 734) (by decide +kernel)⟩
def lw_privs_3 : List (MethodName × Nat) := [(⟨"ChargePlansModel", "isSome", "(I)Z"⟩, 21)]
theorem lw_r3 : ∀ q ∈ lw_privs_3, lw_okq q := List.forall_mem_cons.mpr ⟨lw_p32, fun _ h => absurd h List.not_mem_nil⟩
def lw_privs : List (MethodName × Nat) := lw_privs_1 ++ (lw_privs_2 ++ (lw_privs_3))
def lw_tbl : List Cond := k2_sels lw_privs ++ tables_1
theorem lw_privs_ok : ∀ q ∈ lw_privs, lw_okq q := by
  show ∀ q ∈ lw_privs_1 ++ (lw_privs_2 ++ (lw_privs_3)), lw_okq q
  exact List.forall_mem_append.mpr ⟨lw_r1, List.forall_mem_append.mpr ⟨lw_r2, lw_r3⟩⟩
end
section
def R_CP : String := "ChargePlans"
def F_CP : u_T := fun k => match k with
  | 0 => ("ChargePlans", "goods", "LChargePlans$Goods;", true)
  | 1 => ("ChargePlans", "heats", "LChargePlans$Heats;", true)
  | 2 => ("ChargePlans", "planning", "LChargePlans$Planning;", true)
  | _ => ("ChargePlans", "clashing", "LChargePlans$Clashing;", true)
def t_CP : Nat → FieldType := fun k => match k with
  | 0 => .object "ChargePlans$Goods"
  | 1 => .object "ChargePlans$Heats"
  | 2 => .object "ChargePlans$Planning"
  | _ => .object "ChargePlans$Clashing"
theorem n_CP : ∀ a, a < 4 → ∀ b, b < 4 → a ≠ b → (F_CP a).2.1 ≠ (F_CP b).2.1 := by decide +kernel
theorem t_CP_ok : ∀ k, k < 4 → parseFieldDescriptor (F_CP k).2.2.1 = some (t_CP k) := by decide +kernel
def R_G : String := "ChargePlans$Goods"
def F_G : u_T := fun k => match k with
  | 0 => ("ChargePlans$Goods", "count", "I", false)
  | 1 => ("ChargePlans$Goods", "kilos", "[I", true)
  | 2 => ("ChargePlans$Goods", "cents", "[I", true)
  | 3 => ("ChargePlans$Goods", "stock", "[I", true)
  | 4 => ("ChargePlans$Goods", "limit", "[I", true)
  | 5 => ("ChargePlans$Goods", "lowShare", "[I", true)
  | _ => ("ChargePlans$Goods", "highShare", "[I", true)
def t_G : Nat → FieldType := fun k => match k with
  | 0 => .int
  | 1 => .array .int
  | 2 => .array .int
  | 3 => .array .int
  | 4 => .array .int
  | 5 => .array .int
  | _ => .array .int
theorem n_G : ∀ a, a < 7 → ∀ b, b < 7 → a ≠ b → (F_G a).2.1 ≠ (F_G b).2.1 := by decide +kernel
theorem t_G_ok : ∀ k, k < 7 → parseFieldDescriptor (F_G k).2.2.1 = some (t_G k) := by decide +kernel
def R_H : String := "ChargePlans$Heats"
def F_H : u_T := fun k => match k with
  | 0 => ("ChargePlans$Heats", "count", "I", false)
  | 1 => ("ChargePlans$Heats", "low", "[I", true)
  | 2 => ("ChargePlans$Heats", "high", "[I", true)
  | 3 => ("ChargePlans$Heats", "lowShare", "[I", true)
  | 4 => ("ChargePlans$Heats", "highShare", "[I", true)
  | 5 => ("ChargePlans$Heats", "mostBundles", "[I", true)
  | 6 => ("ChargePlans$Heats", "planCents", "[I", true)
  | _ => ("ChargePlans$Heats", "bundles", "[I", true)
def t_H : Nat → FieldType := fun k => match k with
  | 0 => .int
  | 1 => .array .int
  | 2 => .array .int
  | 3 => .array .int
  | 4 => .array .int
  | 5 => .array .int
  | 6 => .array .int
  | _ => .array .int
theorem n_H : ∀ a, a < 8 → ∀ b, b < 8 → a ≠ b → (F_H a).2.1 ≠ (F_H b).2.1 := by decide +kernel
theorem t_H_ok : ∀ k, k < 8 → parseFieldDescriptor (F_H k).2.2.1 = some (t_H k) := by decide +kernel
def R_P : String := "ChargePlans$Planning"
def F_P : u_T := fun k => match k with
  | 0 => ("ChargePlans$Planning", "sums", "LChargePlans$Sums;", true)
  | 1 => ("ChargePlans$Planning", "charge", "[I", true)
  | 2 => ("ChargePlans$Planning", "best", "[I", true)
  | 3 => ("ChargePlans$Planning", "bestCents", "I", false)
  | 4 => ("ChargePlans$Planning", "allowed", "I", false)
  | 5 => ("ChargePlans$Planning", "steps", "I", false)
  | 6 => ("ChargePlans$Planning", "spent", "Z", false)
  | _ => ("ChargePlans$Planning", "done", "Z", false)
def t_P : Nat → FieldType := fun k => match k with
  | 0 => .object "ChargePlans$Sums"
  | 1 => .array .int
  | 2 => .array .int
  | 3 => .int
  | 4 => .int
  | 5 => .int
  | 6 => .boolean
  | _ => .boolean
theorem n_P : ∀ a, a < 8 → ∀ b, b < 8 → a ≠ b → (F_P a).2.1 ≠ (F_P b).2.1 := by decide +kernel
theorem t_P_ok : ∀ k, k < 8 → parseFieldDescriptor (F_P k).2.2.1 = some (t_P k) := by decide +kernel
def R_S : String := "ChargePlans$Sums"
def F_S : u_T := fun k => match k with
  | 0 => ("ChargePlans$Sums", "goodCount", "I", false)
  | 1 => ("ChargePlans$Sums", "room", "[I", true)
  | 2 => ("ChargePlans$Sums", "perBundle", "[I", true)
  | _ => ("ChargePlans$Sums", "rows", "[I", true)
def t_S : Nat → FieldType := fun k => match k with
  | 0 => .int
  | 1 => .array .int
  | 2 => .array .int
  | _ => .array .int
theorem n_S : ∀ a, a < 4 → ∀ b, b < 4 → a ≠ b → (F_S a).2.1 ≠ (F_S b).2.1 := by decide +kernel
theorem t_S_ok : ∀ k, k < 4 → parseFieldDescriptor (F_S k).2.2.1 = some (t_S k) := by decide +kernel
def R_C : String := "ChargePlans$Clashing"
def F_C : u_T := fun k => match k with
  | 0 => ("ChargePlans$Clashing", "sums", "LChargePlans$Sums;", true)
  | 1 => ("ChargePlans$Clashing", "seen", "[J", true)
  | _ => ("ChargePlans$Clashing", "allHold", "Z", false)
def t_C : Nat → FieldType := fun k => match k with
  | 0 => .object "ChargePlans$Sums"
  | 1 => .array .long
  | _ => .boolean
theorem n_C : ∀ a, a < 3 → ∀ b, b < 3 → a ≠ b → (F_C a).2.1 ≠ (F_C b).2.1 := by decide +kernel
theorem t_C_ok : ∀ k, k < 3 → parseFieldDescriptor (F_C k).2.2.1 = some (t_C k) := by decide +kernel
def R_M : String := "ChargePlansModel"
def F_M : u_T := fun k => match k with
  | 0 => ("ChargePlansModel", "thrown", "I", false)
  | 1 => ("ChargePlansModel", "goods", "I", false)
  | 2 => ("ChargePlansModel", "kilos", "[I", true)
  | 3 => ("ChargePlansModel", "cents", "[I", true)
  | 4 => ("ChargePlansModel", "stock", "[I", true)
  | 5 => ("ChargePlansModel", "limit", "[I", true)
  | 6 => ("ChargePlansModel", "low", "[I", true)
  | 7 => ("ChargePlansModel", "high", "[I", true)
  | 8 => ("ChargePlansModel", "heats", "I", false)
  | 9 => ("ChargePlansModel", "least", "[I", true)
  | 10 => ("ChargePlansModel", "greatest", "[I", true)
  | 11 => ("ChargePlansModel", "most", "[I", true)
  | 12 => ("ChargePlansModel", "heatLow", "[I", true)
  | 13 => ("ChargePlansModel", "heatHigh", "[I", true)
  | 14 => ("ChargePlansModel", "planCents", "[I", true)
  | 15 => ("ChargePlansModel", "plan", "[I", true)
  | 16 => ("ChargePlansModel", "asked", "Z", false)
  | 17 => ("ChargePlansModel", "spent", "Z", false)
  | 18 => ("ChargePlansModel", "steps", "I", false)
  | 19 => ("ChargePlansModel", "now", "[I", true)
  | _ => ("ChargePlansModel", "breaks", "[Z", true)
def t_M : Nat → FieldType := fun k => match k with
  | 0 => .int
  | 1 => .int
  | 2 => .array .int
  | 3 => .array .int
  | 4 => .array .int
  | 5 => .array .int
  | 6 => .array .int
  | 7 => .array .int
  | 8 => .int
  | 9 => .array .int
  | 10 => .array .int
  | 11 => .array .int
  | 12 => .array .int
  | 13 => .array .int
  | 14 => .array .int
  | 15 => .array .int
  | 16 => .boolean
  | 17 => .boolean
  | 18 => .int
  | 19 => .array .int
  | _ => .array .boolean
theorem n_M : ∀ a, a < 21 → ∀ b, b < 21 → a ≠ b → (F_M a).2.1 ≠ (F_M b).2.1 := by decide +kernel
theorem t_M_ok : ∀ k, k < 21 → parseFieldDescriptor (F_M k).2.2.1 = some (t_M k) := by decide +kernel
abbrev vwCl : List vw_C := [(R_CP, F_CP, 4), (R_G, F_G, 7), (R_H, F_H, 8), (R_P, F_P, 8), (R_S, F_S, 4), (R_C, F_C, 3), (R_M, F_M, 21)]
def tk_ncl : List Cond := [.not (.castable "java/lang/IndexOutOfBoundsException" "java/lang/IllegalStateException"), .not (.castable "java/lang/IndexOutOfBoundsException" "java/lang/IllegalArgumentException"), .not (.castable "java/lang/IndexOutOfBoundsException" "java/lang/UnsupportedOperationException"), .not (.castable "java/lang/IllegalStateException" "java/lang/IndexOutOfBoundsException"), .not (.castable "java/lang/IllegalStateException" "java/lang/IllegalArgumentException"), .not (.castable "java/lang/IllegalStateException" "java/lang/UnsupportedOperationException"), .not (.castable "java/lang/IllegalArgumentException" "java/lang/IndexOutOfBoundsException"), .not (.castable "java/lang/IllegalArgumentException" "java/lang/IllegalStateException"), .not (.castable "java/lang/IllegalArgumentException" "java/lang/UnsupportedOperationException"), .not (.castable "java/lang/UnsupportedOperationException" "java/lang/IndexOutOfBoundsException"), .not (.castable "java/lang/UnsupportedOperationException" "java/lang/IllegalStateException"), .not (.castable "java/lang/UnsupportedOperationException" "java/lang/IllegalArgumentException")]
end
section
/-! ===== T: walks over an abstract world. The world is a list of cells; a reference is a place in that list; 'ad' says where the places lie in the heap. ===== -/
abbrev tk_E : Type := (Nat × vp_A) ⊕ (Nat × List Value)
abbrev tk_W : Type := List tk_E
/-- how a method ends: it returns, or throws an object of the class of that name -/
abbrev tk_R : Type := Option Value ⊕ String
def tk_v (ad : Nat → Nat) (v : Value) : Value := match v with
  | .ref k => .ref (ad k)
  | x => x
def tk_e (dA : Nat → ClassId) (ad : Nat → Nat) (x : tk_E) : va_E := match x with
  | .inl a => .inl (dA a.1, a.2)
  | .inr o => .inr (o.1, o.2.map (tk_v ad))
def tk_m (dA : Nat → ClassId) (ad : Nat → Nat) (w : tk_W) : va_W := w.mapIdx (fun k x => (ad k, tk_e dA ad x))
theorem tk_m_get {dA : Nat → ClassId} {ad : Nat → Nat} {w : tk_W} {k : Nat} {x : tk_E} (h : w[k]? = some x) : (tk_m dA ad w)[k]? = some (ad k, tk_e dA ad x) := by
  simp [tk_m, h]
theorem tk_m_len {dA : Nat → ClassId} {ad : Nat → Nat} {w : tk_W} : (tk_m dA ad w).length = w.length := by simp [tk_m]
theorem tk_m_of {dA : Nat → ClassId} {ad : Nat → Nat} {w : tk_W} {k : Nat} {q : Nat × va_E} (h : (tk_m dA ad w)[k]? = some q) : ∃ x, w[k]? = some x ∧ q = (ad k, tk_e dA ad x) := by
  cases hx : w[k]? with
  | none => simp [tk_m, hx] at h
  | some x =>
    rw [tk_m_get hx] at h
    exact ⟨x, rfl, (Option.some.inj h).symm⟩
theorem tk_m_set {dA : Nat → ClassId} {ad : Nat → Nat} {w : tk_W} (k : Nat) (x : tk_E) : (tk_m dA ad w).set k (ad k, tk_e dA ad x) = tk_m dA ad (w.set k x) := by
  apply List.ext_getElem?
  intro i
  simp only [tk_m, List.getElem?_set, List.getElem?_mapIdx, List.length_mapIdx]
  by_cases h : k = i
  · subst h
    by_cases hl : k < w.length
    · simp [hl]
    · simp [hl]
  · simp [h]
/-- a value that speaks of the first n places alone -/
def tk_ok (n : Nat) (v : Value) : Bool := match v with
  | .ref k => decide (k < n)
  | _ => true
def tk_okE (n : Nat) (x : tk_E) : Bool := match x with
  | .inl _ => true
  | .inr o => o.2.all (tk_ok n)
def tk_wf (w : tk_W) : Prop := ∀ (k : Nat) (x : tk_E), w[k]? = some x → tk_okE w.length x = true
theorem tk_wf_set {w : tk_W} {k : Nat} {x : tk_E} (h : tk_wf w) (hx : tk_okE w.length x = true) : tk_wf (w.set k x) := by
  intro j y hy
  rw [List.length_set]
  rw [List.getElem?_set] at hy
  by_cases hj : k = j
  · subst hj
    rw [if_pos rfl] at hy
    by_cases hl : k < w.length
    · rw [if_pos hl] at hy
      cases hy
      exact hx
    · rw [if_neg hl] at hy
      cases hy
  · rw [if_neg hj] at hy
    exact h j y hy
def tk_up (ad : Nat → Nat) (n q : Nat) : Nat → Nat := fun k => if k = n then q else ad k
theorem tk_v_up {ad : Nat → Nat} {n q : Nat} {v : Value} (h : tk_ok n v = true) : tk_v (tk_up ad n q) v = tk_v ad v := by
  cases v with
  | ref k =>
    have hk : k < n := of_decide_eq_true h
    show Value.ref (if k = n then q else ad k) = .ref (ad k)
    rw [if_neg (Nat.ne_of_lt hk)]
  | _ => rfl
theorem tk_e_up {dA : Nat → ClassId} {ad : Nat → Nat} {n q : Nat} {x : tk_E} (h : tk_okE n x = true) : tk_e dA (tk_up ad n q) x = tk_e dA ad x := by
  rcases x with a | ⟨c, fs⟩
  · rfl
  · show (Sum.inr (c, fs.map (tk_v (tk_up ad n q))) : va_E) = .inr (c, fs.map (tk_v ad))
    have hm : fs.map (tk_v (tk_up ad n q)) = fs.map (tk_v ad) := List.map_congr_left (fun v hv => tk_v_up (List.all_eq_true.mp h v hv))
    rw [hm]
theorem tk_ok_le {n k : Nat} (hk : n ≤ k) {v : Value} (h : tk_ok n v = true) : tk_ok k v = true := by
  cases v with
  | ref j =>
    have hj : j < n := of_decide_eq_true h
    exact decide_eq_true (Nat.lt_of_lt_of_le hj hk)
  | _ => rfl
theorem tk_okE_le {n k : Nat} (hk : n ≤ k) {x : tk_E} (h : tk_okE n x = true) : tk_okE k x = true := by
  rcases x with a | ⟨c, fs⟩
  · rfl
  · exact List.all_eq_true.mpr fun v hv => tk_ok_le hk (List.all_eq_true.mp h v hv)
theorem tk_m_push {dA : Nat → ClassId} {ad : Nat → Nat} {w : tk_W} {x : tk_E} {q : Nat} (hw : tk_wf w) (hx : tk_okE w.length x = true) : tk_m dA (tk_up ad w.length q) (w ++ [x]) = tk_m dA ad w ++ [(q, tk_e dA ad x)] := by
  apply List.ext_getElem?
  intro i
  rcases Nat.lt_trichotomy i w.length with hi | hi | hi
  · have h1 : (w ++ [x])[i]? = w[i]? := List.getElem?_append_left hi
    have h2 : (tk_m dA ad w ++ [(q, tk_e dA ad x)])[i]? = (tk_m dA ad w)[i]? := List.getElem?_append_left (by rw [tk_m_len]; exact hi)
    rw [h2]
    cases hy : w[i]? with
    | none => exact absurd (List.getElem?_eq_none_iff.mp hy) (by omega)
    | some y =>
      rw [tk_m_get hy, tk_m_get (h1.trans hy), tk_e_up (hw i y hy)]
      show some ((if i = w.length then q else ad i), _) = _
      rw [if_neg (Nat.ne_of_lt hi)]
  · subst hi
    have h1 : (w ++ [x])[w.length]? = some x := by simp
    have h2 : (tk_m dA ad w ++ [(q, tk_e dA ad x)])[w.length]? = some (q, tk_e dA ad x) := by
      rw [List.getElem?_append_right (by rw [tk_m_len]; exact Nat.le_refl _), tk_m_len, Nat.sub_self]
      rfl
    rw [tk_m_get h1, h2, tk_e_up hx]
    show some ((if w.length = w.length then q else ad w.length), _) = _
    rw [if_pos rfl]
  · rw [List.getElem?_eq_none (by rw [tk_m_len]; simp; omega), List.getElem?_eq_none (by simp [tk_m_len]; omega)]
theorem tk_wf_push {w : tk_W} {x : tk_E} (hw : tk_wf w) (hx : tk_okE w.length x = true) : tk_wf (w ++ [x]) := by
  intro i y hy
  have hl : (w ++ [x]).length = w.length + 1 := by simp
  rw [hl]
  rcases Nat.lt_or_ge i w.length with hi | hi
  · rw [List.getElem?_append_left hi] at hy
    exact tk_okE_le (Nat.le_succ _) (hw i y hy)
  · rw [List.getElem?_append_right hi] at hy
    have hz : i - w.length < 1 := (List.getElem?_eq_some_iff.mp hy).1
    rw [show i - w.length = 0 by omega] at hy
    cases hy
    exact tk_okE_le (Nat.le_succ _) hx
/-! locals, by their numbers -/
def tk_L (ad : Nat → Nat) (ls : Array Slot) (nL : Nat) (lv : List (Option Value)) : Prop := ls.size = nL ∧ lv_wf ls ∧ ∀ (i : Nat) (v : Value), lv[i]? = some (some v) → ls[i]? = some (.val (tk_v ad v))
def tk_pr (ad : Nat → Nat) (lv : List (Option Value)) : List (Nat × Value) := (List.range lv.length).filterMap (fun i => match lv[i]? with
  | some (some v) => some (i, tk_v ad v)
  | _ => none)
theorem tk_pr_in {ad : Nat → Nat} {lv : List (Option Value)} {i : Nat} {v : Value} (h : lv[i]? = some (some v)) : (i, tk_v ad v) ∈ tk_pr ad lv :=
  List.mem_filterMap.mpr ⟨i, List.mem_range.mpr (List.getElem?_eq_some_iff.mp h).1, by rw [h]⟩
theorem tk_pr_of {ad : Nat → Nat} {lv : List (Option Value)} {q : Nat × Value} (h : q ∈ tk_pr ad lv) : ∃ v, lv[q.1]? = some (some v) ∧ q.2 = tk_v ad v := by
  obtain ⟨i, -, hi⟩ := List.mem_filterMap.mp h
  cases ho : lv[i]? with
  | none => rw [ho] at hi; cases hi
  | some o =>
    cases o with
    | none => rw [ho] at hi; cases hi
    | some v =>
      rw [ho] at hi
      cases hi
      exact ⟨v, ho, rfl⟩
theorem tk_L.has {ad : Nat → Nat} {ls : Array Slot} {nL : Nat} {lv : List (Option Value)} (h : tk_L ad ls nL lv) : lv_has ls nL (tk_pr ad lv) := by
  refine ⟨h.1, h.2.1, fun q hq => ?_⟩
  obtain ⟨v, h1, h2⟩ := tk_pr_of hq
  rw [h2]
  exact h.2.2 q.1 v h1
theorem tk_cat (ad : Nat → Nat) (v : Value) : (tk_v ad v).category = v.category := by cases v <;> rfl
/-- the local ahead of i isn't the first half of a long -/
def tk_p1 (o : Option Value) : Bool := match o with
  | some v => v.category == 1
  | none => true
def tk_pc (lv : List (Option Value)) (i : Nat) : Bool := match i with
  | 0 => true
  | j + 1 => match lv[j]? with
    | some o => tk_p1 o
    | none => true
theorem tk_pc_at {lv : List (Option Value)} {i j : Nat} {u : Value} (h : tk_pc lv i = true) (hj : j + 1 = i) (hu : lv[j]? = some (some u)) : u.category = 1 := by
  subst hj
  simp only [tk_pc, hu, tk_p1, beq_iff_eq] at h
  exact h
theorem tk_L.st1 {ad : Nat → Nat} {ls : Array Slot} {nL i : Nat} {lv : List (Option Value)} {v : Value} (hp : tk_pc lv i = true)
    (h : lv_has ls nL ((i, tk_v ad v) :: (tk_pr ad lv).filter (fun q => !(q.1 == i) && !(q.1 + 1 == i && q.2.category == 2)))) : tk_L ad ls nL (lv.set i (some v)) := by
  refine ⟨h.1, h.2.1, fun j u hj => ?_⟩
  rw [List.getElem?_set] at hj
  by_cases e : i = j
  · subst e
    rw [if_pos rfl] at hj
    by_cases hl : i < lv.length
    · rw [if_pos hl] at hj
      cases hj
      exact h.2.2 (i, tk_v ad v) List.mem_cons_self
    · rw [if_neg hl] at hj
      cases hj
  · rw [if_neg e] at hj
    refine h.2.2 (j, tk_v ad u) (List.mem_cons_of_mem _ (List.mem_filter.mpr ⟨tk_pr_in hj, ?_⟩))
    have h1 : (j == i) = false := by simpa using Ne.symm e
    by_cases h2 : j + 1 = i
    · have hc := tk_pc_at hp h2 hj
      simp [h1, tk_cat, hc]
    · simp [h1, h2]
theorem tk_L.st2 {ad : Nat → Nat} {ls : Array Slot} {nL i : Nat} {lv : List (Option Value)} {v : Value} (hp : tk_pc lv i = true)
    (h : lv_has ls nL ((i, tk_v ad v) :: (tk_pr ad lv).filter (fun q => !(q.1 == i) && (!(q.1 == i + 1) && !(q.1 + 1 == i && q.2.category == 2))))) : tk_L ad ls nL ((lv.set i (some v)).set (i + 1) none) := by
  refine ⟨h.1, h.2.1, fun j u hj => ?_⟩
  rw [List.getElem?_set] at hj
  by_cases e2 : i + 1 = j
  · subst e2
    rw [if_pos rfl] at hj
    split at hj <;> cases hj
  · rw [if_neg e2, List.getElem?_set] at hj
    by_cases e : i = j
    · subst e
      rw [if_pos rfl] at hj
      by_cases hl : i < lv.length
      · rw [if_pos hl] at hj
        cases hj
        exact h.2.2 (i, tk_v ad v) List.mem_cons_self
      · rw [if_neg hl] at hj
        cases hj
    · rw [if_neg e] at hj
      refine h.2.2 (j, tk_v ad u) (List.mem_cons_of_mem _ (List.mem_filter.mpr ⟨tk_pr_in hj, ?_⟩))
      have h1 : (j == i) = false := by simpa using Ne.symm e
      have h3 : (j == i + 1) = false := by simpa using Ne.symm e2
      by_cases h2 : j + 1 = i
      · have hc := tk_pc_at hp h2 hj
        simp [h1, h3, tk_cat, hc]
      · simp [h1, h2, h3]
/-- the locals at a method's entry -/
def tk_ent : List Value → List (Option Value)
  | [] => []
  | v :: vs => if v.category = 2 then some v :: none :: tk_ent vs else some v :: tk_ent vs
theorem tk_ent_at (ad : Nat → Nat) : ∀ (as : List Value) (i : Nat) (v : Value), (tk_ent as)[i]? = some (some v) → (lg_sl (as.map (tk_v ad)))[i]? = some (.val (tk_v ad v))
  | [], i, v, h => by simp [tk_ent] at h
  | a :: as, i, v, h => by
    have hs : lg_sl ((a :: as).map (tk_v ad)) = (if a.category = 2 then [Slot.val (tk_v ad a), Slot.second] else [Slot.val (tk_v ad a)]) ++ lg_sl (as.map (tk_v ad)) := by
      simp only [lg_sl, List.map_cons, List.flatMap_cons, tk_cat]
    rw [hs]
    by_cases hc : a.category = 2
    · simp only [tk_ent, hc, if_true] at h ⊢
      match i, h with
      | 0, h => simp at h; subst h; simp
      | 1, h => simp at h
      | i + 2, h => simpa using tk_ent_at ad as i v (by simpa using h)
    · simp only [tk_ent, hc, if_false] at h ⊢
      match i, h with
      | 0, h => simp at h; subst h; simp
      | i + 1, h => simpa using tk_ent_at ad as i v (by simpa using h)
end
section
/-! words that hold on while the tables warm -/
def tk_gx (w : Cond) : Bool := match w with
  | .arrayClass _ => true
  | .fieldLinkNest .. => true
  | .methodLinkNest .. => true
  | .stringRef .. => true
  | .not (.castable ..) => true
  | _ => false
def tk_gd (w : Cond) : Bool := (w.onTables && w.keeps) || (w.onTables && w.faceAtom) || tk_gx w
theorem tk_warm {w : Cond} {s U : State} {a a' : Array Value} (hg : tk_gd w = true) (hW : s.WarmedH U.vm) (h : w.before a s = true) : w.before a' U = true := by
  simp only [tk_gd, Bool.or_eq_true] at hg
  rcases hg with (h1 | h1) | h1
  · exact word_at hW (Or.inl h1) h
  · rw [Bool.and_eq_true] at h1
    exact va_tabs h1.1 (rfl : (s.setVm U.vm).vm = U.vm) (Cond.faceAtom_setVm hW.alike w h1.2 h)
  · match w, h1, h with
    | .arrayClass ty, _, h => exact word_at hW (Or.inr ⟨ty, rfl⟩) h
    | .fieldLinkNest .., _, h => exact va_tabs rfl (rfl : (s.setVm U.vm).vm = U.vm) (Cond.fieldLinkNest_warmed hW h)
    | .methodLinkNest .., _, h => exact va_tabs rfl (rfl : (s.setVm U.vm).vm = U.vm) (Cond.methodLinkNest_warmed hW h)
    | .stringRef .., _, h =>
      have h2 := Cond.stringRef_warmed hW h
      simp only [Cond.before, Cond.holds, Cond.value, State.names, State.poolOf?, State.resolvedAt?, State.vm_setVm] at h2 ⊢
      exact h2
    | .not (.castable x y), _, h =>
      have h2 : (Cond.not (.castable x y)).before a (s.setVm U.vm) = true := Cond.castAtom_setVm hW.alike _ rfl h
      simp only [Cond.before, Cond.holds, Cond.value, State.vm_setVm] at h2 ⊢
      exact h2
abbrev tk_cl : List vw_C := vwCl
def tk_tbl : List Cond := (lw_tbl ++ tk_ncl).filter tk_gd
theorem tk_in {w : Cond} (h : w ∈ lw_tbl) (hg : tk_gd w = true) : w ∈ tk_tbl := List.mem_filter.mpr ⟨List.mem_append_left _ h, hg⟩
theorem tk_at {w : Cond} (i : Nat) (h : tables_1[i]? = some w) (hg : tk_gd w = true) : w ∈ tk_tbl := tk_in (List.mem_append_right _ (List.mem_of_getElem? h)) hg
theorem tk_ac {w : Cond} (i : Nat) (h : tables_1[i]? = some w) (hg : tk_gd w = true) : w ∈ tk_tbl := tk_at i h hg
theorem tk_sl {w : Cond} (h : w ∈ k2_sels lw_privs) (hg : tk_gd w = true) : w ∈ tk_tbl := tk_in (List.mem_append_left _ h) hg
theorem tk_nc {w : Cond} (h : w ∈ tk_ncl) (hg : tk_gd w = true) : w ∈ tk_tbl := List.mem_filter.mpr ⟨List.mem_append_right _ h, hg⟩
theorem tk_all {ws : List Cond} (h : ∀ w ∈ ws, w ∈ tables_1) (hg : ws.all tk_gd = true) : ∀ w ∈ ws, w ∈ tk_tbl := fun w hw => tk_in (List.mem_append_right _ (h w hw)) (List.all_eq_true.mp hg w hw)
/-- the tables' words at a state, whatever the arguments -/
def tk_ts (U : State) : Prop := ∀ x ∈ tk_tbl, ∀ a : Array Value, x.before a U = true
theorem tk_ts.warm {s U : State} (h : tk_ts s) (hW : s.WarmedH U.vm) : tk_ts U := fun x hx a => tk_warm (List.mem_filter.mp hx).2 hW (h x hx #[])
theorem tk_ts.of {s : State} {args : Array Value} (h : ∀ w ∈ lw_tbl, w.before args s = true) (h2 : ∀ w ∈ tk_ncl, w.before args s = true) : tk_ts s := fun x hx a => tk_warm (List.mem_filter.mp hx).2 (State.WarmedH.refl s) ((List.mem_append.mp (List.mem_filter.mp hx).1).elim (h x) (h2 x))
theorem tk_ts.at {s : State} (h : tk_ts s) (a : Array Value) : ∀ w ∈ tk_tbl, w.before a s = true := fun w hw => h w hw a
/-! the kinds of arrays -/
def tk_ty : List FieldType := [.int, .long, .boolean, .byte]
def tk_tys (dA : Nat → ClassId) : List (ClassId × FieldType) := [(dA 0, .int), (dA 1, .long), (dA 2, .boolean), (dA 3, .byte)]
/-- where a static field lies: in its class's statics cell, which is outside A -/
def tk_Ls (C n f9 : String) (A : Nat → Prop) (U : State) (H : Heap) : Prop := ∃ (c : ClassId) (k : Class) (i : Nat) (f : Field) (a : Nat) (cell : Cell), U.vm.findClass C = some c ∧ U.fieldFound? C n f9 = some (c, k, i, f) ∧ f.isStatic = true ∧ k.statics = some a ∧ H[a]? = some cell ∧ cell.vm.isStatics = true ∧ cell.cls = c ∧ f.slot < cell.slots.size ∧ k.staticTypes[f.slot]? = some f.type ∧ ¬ A a
theorem tk_Ls.go {C n f9 : String} {A B : Nat → Prop} {u U : State} {H H1 : Heap} (h : tk_Ls C n f9 A u H) (hvm : u.vm.Alike U.vm) (hq : ∀ a : Nat, a < H.size → ¬ A a → H1[a]? = H[a]?) (hAB : ∀ q, B q → A q) : tk_Ls C n f9 B U H1 := by
  obtain ⟨c, k, i, f, a, cell, h1, h2, h3, h4, h5, h6, h7, h8, h9, h10⟩ := h
  obtain ⟨k', hi', he⟩ := State.fieldFound?_setVm hvm h2
  exact ⟨c, k', i, f, a, cell, by rw [hvm.findClass]; exact h1, hi', h3, by rw [he]; exact h4, by rw [hq a (Array.getElem?_eq_some_iff.mp h5).1 h10]; exact h5, h6, h7, h8, by rw [he]; exact h9, fun z => h10 (hAB _ z)⟩
/-- what a throw needs of the heap: two statics of Throwable, outside A -/
def tk_Th (A : Nat → Prop) (s : State) : Prop := ∃ u v : Value, u.isRef = true ∧ v.isRef = true ∧ va_Z Bundle.tN "UNASSIGNED_STACK" Bundle.steD u A s s.heap ∧ va_Z Bundle.tN "SUPPRESSED_SENTINEL" Bundle.listD v A s s.heap ∧ tk_Ls Bundle.tN "UNASSIGNED_STACK" Bundle.steD A s s.heap ∧ tk_Ls Bundle.tN "SUPPRESSED_SENTINEL" Bundle.listD A s s.heap
def tk_A (ad : Nat → Nat) (w : tk_W) (sz : Nat) : Nat → Prop := fun q => (∃ k : Nat, k < w.length ∧ q = ad k) ∨ sz ≤ q
def tk_rm (d kc ks : Nat) : Room := { frames := d + 8, cells := kc, slots := ks, locals := d * 60 + 240 }
def tk_Ag (n0 n : Nat) (ad0 ad : Nat → Nat) : Prop := ∀ k : Nat, (k < n0 ∨ n ≤ k) → ad k = ad0 k
theorem tk_Ag.rf {n0 n : Nat} {ad : Nat → Nat} : tk_Ag n0 n ad ad := fun _ _ => rfl
/-- the end of a method, as its caller sees it -/
def tk_Out (ad : Nat → Nat) (st t : State) (o : Outcome) (r : tk_R) : Prop := match r with
  | .inl v => o = .returned (v.map (tk_v ad))
  | .inr C => ∃ (a : Addr) (ce : Cell), o = .threw a ∧ t.heap[a]? = some ce ∧ ce.vm = .none ∧ st.vm.findClass C = some ce.cls
def tk_Y (D : va_G) (dA : Nat → ClassId) (A : Nat → Prop) (ad0 : Nat → Nat) (n0 : Nat) (s : State) (kc ks : Nat) (Q : tk_R → tk_W → Prop) (o : Outcome) (t : State) : Prop :=
  (s.WarmedH t.vm ∧ ∃ L : List Loc, s.sameButNew ({ t with vm := s.vm } : State) L kc ks ∧ ∀ q ∈ L, A q.base) ∧ va_F A s t ∧
  ∃ (r : tk_R) (ad : Nat → Nat) (w : tk_W), Q r w ∧ tk_Out ad s t o r ∧ tk_Ag n0 w.length ad0 ad ∧ n0 ≤ w.length ∧ va_P D tk_cl (tk_m dA ad w) t.heap ∧ va_D A (tk_m dA ad w) ∧ tk_wf w
def tk_Z (below : List Frame) (D : va_G) (dA : Nat → ClassId) (A : Nat → Prop) (ad0 : Nat → Nat) (n0 : Nat) (s : State) (kc ks : Nat) (Q : tk_R → tk_W → Prop) : State → Prop := fun t =>
  ∃ o, t.status = .running ∧ Ended t below o ∧ tk_Y D dA A ad0 n0 s kc ks Q o t
/-- what stands while a method runs: the machine, the code, the tables, what is given of the heap -/
abbrev tk_In (p : Program) (l : Launch) (s : State) (m : MethodId) (meth : Method) (c : Code) (y : MethodName) (cc : ByteArray) (nL : Nat) (rt : Option FieldType) (hh : List (Nat × Nat × Nat × Nat)) (D : va_G) (dA : Nat → ClassId) (A : Nat → Prop) (ad0 : Nat → Nat) (ro : Nat → Option (Nat × (Nat → Int32))) : Prop :=
  p.tables.exec = Jvm.exec ∧ c.code = cc ∧ c.maxLocals = nL ∧ meth.sig.returnType = rt ∧ meth.locks = false ∧ meth.name = y.name ∧ s.vm.findClass y.cls = some m.cls ∧
  c.exceptionTable.toList.map (fun h => (h.startPc, h.endPc, h.handlerPc, h.catchType)) = hh ∧ tk_ts s ∧ va_K D tk_cl (tk_tys dA) s ∧ (∀ q : Nat, s.heap.size ≤ q → A q) ∧ tk_Th A s ∧
  (∀ (q : Nat) (cell : Cell), A q → s.heap[q]? = some cell → cell.vm.isStatics = false) ∧ l.stackTraces = false ∧
  (∀ (k L : Nat) (xs : Nat → Int32), ro k = some (L, xs) → va_X (ad0 k) L xs s s.heap ∧ ad0 k < s.heap.size ∧ ¬ A (ad0 k))
/-- THE WALK: at pc, with these locals, this stack and this world, the method comes to an end with Q -/
def tk_T (y : MethodName) (cc : ByteArray) (nL : Nat) (rt : Option FieldType) (hh : List (Nat × Nat × Nat × Nat)) (d kc ks : Nat) (ro : Nat → Option (Nat × (Nat → Int32))) (cells slots : Nat) (Q : tk_R → tk_W → Prop) (pc : Nat) (lv : List (Option Value)) (st : List Value) (w : tk_W) : Prop :=
  ∀ (p : Program) (l : Launch) (e : Env) (s : State) (m : MethodId) (args : Array Value) (below : List Frame) (meth : Method) (c : Code) (D : va_G) (dA : Nat → ClassId) (A : Nat → Prop) (ad0 : Nat → Nat) (n0 : Nat), tk_In p l s m meth c y cc nL rt hh D dA A ad0 ro →
  ∀ (ad : Nat → Nat) (H : Heap) (locs : List Loc) (ls : Array Slot), tk_Ag n0 w.length ad0 ad → n0 ≤ w.length → va_P D tk_cl (tk_m dA ad w) H → va_D A (tk_m dA ad w) → va_S A s.heap H locs → tk_wf w → tk_L ad ls nL lv →
  W p l e (tk_rm d kc ks) s m args below meth c H locs cells slots (tk_Z below D dA A ad0 n0 s kc ks Q) (F0 m pc ls (st.map (tk_v ad)))
/-- the heap that a method finds -/
def tk_U (D : va_G) (dA : Nat → ClassId) (ad : Nat → Nat) (w : tk_W) (U : State) : Prop :=
  va_P D tk_cl (tk_m dA ad w) U.heap ∧ va_D (fun _ => True) (tk_m dA ad w) ∧ va_K D tk_cl (tk_tys dA) U ∧ tk_wf w ∧ tk_ts U ∧ tk_Th (tk_A ad w U.heap.size) U
/-- a method's CONTRACT at arguments as and world w: it ends, with Q -/
def tk_M (y : MethodName) (cw : Cond) (d kc ks : Nat) (as : List Value) (w : tk_W) (Q : tk_R → tk_W → Prop) : Prop :=
  ∀ l : Launch, l.stackTraces = false → ∀ (D : va_G) (dA : Nat → ClassId) (ad : Nat → Nat), MetFree l y (headSpec [cw] (tk_rm d kc ks)) (fun args U => args = (as.map (tk_v ad)).toArray ∧ tk_U D dA ad w U) (fun _ _ _ _ _ => True)
    (fun _ s o t => tk_Y D dA (tk_A ad w s.heap.size) ad w.length s kc ks Q o t)
theorem tk_at_vm {D : va_G} {q : Nat × va_E} {H : Heap} (h : va_at D tk_cl q H) : ∃ cell : Cell, H[q.1]? = some cell ∧ cell.vm.isStatics = false := by
  obtain ⟨a, x⟩ := q
  rcases x with ⟨cA, n, f⟩ | o
  · have h' : H[a]? = some (vp_cell cA (n, f)) := h
    refine ⟨_, h', ?_⟩
    rcases f with f | f | f | f | f <;> rfl
  · obtain ⟨r, -, cell, q1, q2, q3, -⟩ := h
    exact ⟨cell, q1, by rw [q3]; rfl⟩
theorem tk_U.ns {D : va_G} {dA : Nat → ClassId} {ad : Nat → Nat} {w : tk_W} {H : Heap} (hP : va_P D tk_cl (tk_m dA ad w) H) : ∀ (q : Nat) (cell : Cell), tk_A ad w H.size q → H[q]? = some cell → cell.vm.isStatics = false := by
  intro q cell hq hc
  rcases hq with ⟨k, hk, rfl⟩ | hq
  · obtain ⟨x, hx⟩ : ∃ x, w[k]? = some x := ⟨w[k], List.getElem?_eq_getElem hk⟩
    obtain ⟨c2, h1, h2⟩ := tk_at_vm (hP k _ (tk_m_get hx))
    cases h1.symm.trans hc
    exact h2
  · have := (Array.getElem?_eq_some_iff.mp hc).1
    omega
theorem tk_D_self {D : va_G} {dA : Nat → ClassId} {ad : Nat → Nat} {w : tk_W} {A : Nat → Prop} {sz : Nat} (h : va_D A (tk_m dA ad w)) : va_D (tk_A ad w sz) (tk_m dA ad w) := by
  refine ⟨h.1, fun k q hq => ?_⟩
  obtain ⟨x, hx, rfl⟩ := tk_m_of hq
  exact Or.inl ⟨k, (List.getElem?_eq_some_iff.mp hx).1, rfl⟩
theorem tk_lv0 {ad : Nat → Nat} {as : List Value} {nL : Nat} {lv : List (Option Value)} (hl : (lg_sl as).length ≤ nL) (he : tk_ent as ++ List.replicate (nL - (lg_sl as).length) none = lv) :
    tk_L ad ((lg_sl (as.map (tk_v ad)) ++ List.replicate (nL - (lg_sl (as.map (tk_v ad))).length) Slot.unset).toArray) nL lv := by
  have hlen : (lg_sl (as.map (tk_v ad))).length = (lg_sl as).length := by
    clear hl he
    induction as with
    | nil => rfl
    | cons a as ih =>
      simp only [lg_sl, List.map_cons, List.flatMap_cons, tk_cat, List.length_append] at ih ⊢
      rw [ih]
      congr 1
      split <;> rfl
  have h := lv_entry (as.map (tk_v ad)) (n := nL) (by rw [hlen]; exact hl)
  refine ⟨h.1, h.2.1, fun i v hi => ?_⟩
  subst he
  rcases Nat.lt_or_ge i (tk_ent as).length with hlt | hge
  · rw [List.getElem?_append_left hlt] at hi
    have h1 := tk_ent_at ad as i v hi
    rw [List.getElem?_toArray, List.getElem?_append_left (List.getElem?_eq_some_iff.mp h1).1]
    exact h1
  · rw [List.getElem?_append_right hge, List.getElem?_replicate] at hi
    split at hi <;> cases hi
/-- a contract out of the walk of the body -/
theorem tk_M.of {y : MethodName} {cc : ByteArray} {nL : Nat} {rt : Option FieldType} {d kc ks : Nat} {as : List Value} {w : tk_W} {Q : tk_R → tk_W → Prop} {lv : List (Option Value)} (hy : plainName y.cls = true)
    (hl : (lg_sl as).length ≤ nL) (he : tk_ent as ++ List.replicate (nL - (lg_sl as).length) none = lv)
    (h : tk_T y cc nL rt [] d kc ks (fun _ => none) 0 0 Q 0 lv [] w) : tk_M y (.code y cc nL rt) d kc ks as w Q := by
  intro l hst D dA ad
  refine MetFree.of_bodyS (code := cc) (maxLocals := nL) (ret := rt) hy ?_ ?_
  · intro args s m h0 hn
    obtain ⟨meth, c, h1, h2, h3, h4, h5, h6, -, -⟩ := Cond.code_spec hn (atoms_spec (ws := [.code y cc nL rt]) h0 _ List.mem_cons_self)
    exact ⟨meth, c, h1, h2, h3, h4, h5, h6⟩
  · intro p e s m args below meth c s₁ B hml hP _
    obtain ⟨rfl, hP, hD, hK, hwf, hts, hTh⟩ := hP
    have hh0 : s₁.heap = s.heap := by rw [B.state]; rfl
    have hcw : (Cond.code y cc nL rt).before (as.map (tk_v ad)).toArray s = true := atoms_spec (ws := [.code y cc nL rt]) B.pre _ List.mem_cons_self
    have hex : c.exceptionTable.toList.map (fun h => (h.startPc, h.endPc, h.handlerPc, h.catchType)) = [] := by
      have h9 := B.noHandlers hcw
      have h8 : c.exceptionTable = #[] := by simpa using h9
      rw [h8]; rfl
    have X := h p l e s m (as.map (tk_v ad)).toArray below meth c D dA (tk_A ad w s.heap.size) ad w.length
      ⟨B.exec, B.bytes, hml, B.returns, B.notSynchronized, (name_of_methodNamed B.named B.method).1, findClass_of_methodNamed B.named, hex, hts, hK, fun q hq => Or.inr hq, hTh, tk_U.ns hP, hst, fun k L xs h => by cases h⟩
      ad s.heap [] _ tk_Ag.rf (Nat.le_refl _) hP (tk_D_self (D := D) hD) va_S.rf hwf (tk_lv0 hl he)
    obtain ⟨t, a1, o, b1, b2, b3⟩ := X s₁ hh0 (Stand.of_body B)
    refine ⟨t, o, ?_, b1, b2, b3⟩
    rw [lg_entry_eq]
    exact a1
/-- the same of a method with handlers -/
theorem tk_M.ofW {y : MethodName} {cc : ByteArray} {nL : Nat} {rt : Option FieldType} {hh : List (Nat × Nat × Nat × Nat)} {d kc ks : Nat} {as : List Value} {w : tk_W} {Q : tk_R → tk_W → Prop} {lv : List (Option Value)} (hy : plainName y.cls = true)
    (hl : (lg_sl as).length ≤ nL) (he : tk_ent as ++ List.replicate (nL - (lg_sl as).length) none = lv)
    (h : tk_T y cc nL rt hh d kc ks (fun _ => none) 0 0 Q 0 lv [] w) : tk_M y (.codeWith y cc nL rt hh) d kc ks as w Q := by
  intro l hst D dA ad
  refine MetFree.of_bodyS (code := cc) (maxLocals := nL) (ret := rt) hy ?_ ?_
  · intro args s m h0 hn
    obtain ⟨m', meth, c, h0', h1, h2, h3, h4, -, h5, h6, -⟩ := Cond.codeWith_spec (atoms_spec (ws := [.codeWith y cc nL rt hh]) h0 _ List.mem_cons_self)
    cases hn.symm.trans h0'
    exact ⟨meth, c, h1, h2, h3, h4, h5, h6⟩
  · intro p e s m args below meth c s₁ B hml hP _
    obtain ⟨rfl, hP, hD, hK, hwf, hts, hTh⟩ := hP
    have hh0 : s₁.heap = s.heap := by rw [B.state]; rfl
    have hcw : (Cond.codeWith y cc nL rt hh).before (as.map (tk_v ad)).toArray s = true := atoms_spec (ws := [.codeWith y cc nL rt hh]) B.pre _ List.mem_cons_self
    have hex : c.exceptionTable.toList.map (fun h => (h.startPc, h.endPc, h.handlerPc, h.catchType)) = hh := by
      obtain ⟨m', meth', c', h0', h1, h2, h3, h4, h7, -⟩ := Cond.codeWith_spec hcw
      cases B.named.symm.trans h0'
      cases B.method.symm.trans h1
      cases (Stand.of_body B).code.symm.trans h2
      exact h7
    have X := h p l e s m (as.map (tk_v ad)).toArray below meth c D dA (tk_A ad w s.heap.size) ad w.length
      ⟨B.exec, B.bytes, hml, B.returns, B.notSynchronized, (name_of_methodNamed B.named B.method).1, findClass_of_methodNamed B.named, hex, hts, hK, fun q hq => Or.inr hq, hTh, tk_U.ns hP, hst, fun k L xs h => by cases h⟩
      ad s.heap [] _ tk_Ag.rf (Nat.le_refl _) hP (tk_D_self (D := D) hD) va_S.rf hwf (tk_lv0 hl he)
    obtain ⟨t, a1, o, b1, b2, b3⟩ := X s₁ hh0 (Stand.of_body B)
    refine ⟨t, o, ?_, b1, b2, b3⟩
    rw [lg_entry_eq]
    exact a1
end
section
section TKR
variable {y : MethodName} {cc : ByteArray} {nL : Nat} {rt : Option FieldType} {hh : List (Nat × Nat × Nat × Nat)} {d kc ks : Nat} {ro : Nat → Option (Nat × (Nat → Int32))} {cells slots : Nat} {Q : tk_R → tk_W → Prop} {pc : Nat} {lv : List (Option Value)} {rest : List Value} {w : tk_W}
theorem tk_iadd {x z : Int32} (hd : decode cc pc = .ok (.iadd, 1)) (k : tk_T y cc nL rt hh d kc ks ro cells slots Q (pc + 1) (lv) (.int (x + z) :: rest) (w)) : tk_T y cc nL rt hh d kc ks ro cells slots Q (pc) (lv) (.int z :: .int x :: rest) (w) := by
  intro p l e s m args below meth c D dA A ad0 n0 I ad H locs ls g1 g2 g3 g4 g5 g6 g7
  exact lv_iadd I.1 I.2.1 hd (k p l e s m args below meth c D dA A ad0 n0 I ad H locs ls g1 g2 g3 g4 g5 g6 g7)
theorem tk_isub {x z : Int32} (hd : decode cc pc = .ok (.isub, 1)) (k : tk_T y cc nL rt hh d kc ks ro cells slots Q (pc + 1) (lv) (.int (x - z) :: rest) (w)) : tk_T y cc nL rt hh d kc ks ro cells slots Q (pc) (lv) (.int z :: .int x :: rest) (w) := by
  intro p l e s m args below meth c D dA A ad0 n0 I ad H locs ls g1 g2 g3 g4 g5 g6 g7
  exact lv_isub I.1 I.2.1 hd (k p l e s m args below meth c D dA A ad0 n0 I ad H locs ls g1 g2 g3 g4 g5 g6 g7)
theorem tk_imul {x z : Int32} (hd : decode cc pc = .ok (.imul, 1)) (k : tk_T y cc nL rt hh d kc ks ro cells slots Q (pc + 1) (lv) (.int (x * z) :: rest) (w)) : tk_T y cc nL rt hh d kc ks ro cells slots Q (pc) (lv) (.int z :: .int x :: rest) (w) := by
  intro p l e s m args below meth c D dA A ad0 n0 I ad H locs ls g1 g2 g3 g4 g5 g6 g7
  exact lv_imul I.1 I.2.1 hd (k p l e s m args below meth c D dA A ad0 n0 I ad H locs ls g1 g2 g3 g4 g5 g6 g7)
theorem tk_iand {x z : Int32} (hd : decode cc pc = .ok (.iand, 1)) (k : tk_T y cc nL rt hh d kc ks ro cells slots Q (pc + 1) (lv) (.int (x &&& z) :: rest) (w)) : tk_T y cc nL rt hh d kc ks ro cells slots Q (pc) (lv) (.int z :: .int x :: rest) (w) := by
  intro p l e s m args below meth c D dA A ad0 n0 I ad H locs ls g1 g2 g3 g4 g5 g6 g7
  exact lv_iand I.1 I.2.1 hd (k p l e s m args below meth c D dA A ad0 n0 I ad H locs ls g1 g2 g3 g4 g5 g6 g7)
theorem tk_ior {x z : Int32} (hd : decode cc pc = .ok (.ior, 1)) (k : tk_T y cc nL rt hh d kc ks ro cells slots Q (pc + 1) (lv) (.int (x ||| z) :: rest) (w)) : tk_T y cc nL rt hh d kc ks ro cells slots Q (pc) (lv) (.int z :: .int x :: rest) (w) := by
  intro p l e s m args below meth c D dA A ad0 n0 I ad H locs ls g1 g2 g3 g4 g5 g6 g7
  exact lv_ior I.1 I.2.1 hd (k p l e s m args below meth c D dA A ad0 n0 I ad H locs ls g1 g2 g3 g4 g5 g6 g7)
theorem tk_ixor {x z : Int32} (hd : decode cc pc = .ok (.ixor, 1)) (k : tk_T y cc nL rt hh d kc ks ro cells slots Q (pc + 1) (lv) (.int (x ^^^ z) :: rest) (w)) : tk_T y cc nL rt hh d kc ks ro cells slots Q (pc) (lv) (.int z :: .int x :: rest) (w) := by
  intro p l e s m args below meth c D dA A ad0 n0 I ad H locs ls g1 g2 g3 g4 g5 g6 g7
  exact lv_ixor I.1 I.2.1 hd (k p l e s m args below meth c D dA A ad0 n0 I ad H locs ls g1 g2 g3 g4 g5 g6 g7)
theorem tk_ladd {x z : Int64} (hd : decode cc pc = .ok (.ladd, 1)) (k : tk_T y cc nL rt hh d kc ks ro cells slots Q (pc + 1) (lv) (.long (x + z) :: rest) (w)) : tk_T y cc nL rt hh d kc ks ro cells slots Q (pc) (lv) (.long z :: .long x :: rest) (w) := by
  intro p l e s m args below meth c D dA A ad0 n0 I ad H locs ls g1 g2 g3 g4 g5 g6 g7
  exact lv_ladd I.1 I.2.1 hd (k p l e s m args below meth c D dA A ad0 n0 I ad H locs ls g1 g2 g3 g4 g5 g6 g7)
theorem tk_lsub {x z : Int64} (hd : decode cc pc = .ok (.lsub, 1)) (k : tk_T y cc nL rt hh d kc ks ro cells slots Q (pc + 1) (lv) (.long (x - z) :: rest) (w)) : tk_T y cc nL rt hh d kc ks ro cells slots Q (pc) (lv) (.long z :: .long x :: rest) (w) := by
  intro p l e s m args below meth c D dA A ad0 n0 I ad H locs ls g1 g2 g3 g4 g5 g6 g7
  exact lv_lsub I.1 I.2.1 hd (k p l e s m args below meth c D dA A ad0 n0 I ad H locs ls g1 g2 g3 g4 g5 g6 g7)
theorem tk_lmul {x z : Int64} (hd : decode cc pc = .ok (.lmul, 1)) (k : tk_T y cc nL rt hh d kc ks ro cells slots Q (pc + 1) (lv) (.long (x * z) :: rest) (w)) : tk_T y cc nL rt hh d kc ks ro cells slots Q (pc) (lv) (.long z :: .long x :: rest) (w) := by
  intro p l e s m args below meth c D dA A ad0 n0 I ad H locs ls g1 g2 g3 g4 g5 g6 g7
  exact lv_lmul I.1 I.2.1 hd (k p l e s m args below meth c D dA A ad0 n0 I ad H locs ls g1 g2 g3 g4 g5 g6 g7)
theorem tk_land {x z : Int64} (hd : decode cc pc = .ok (.land, 1)) (k : tk_T y cc nL rt hh d kc ks ro cells slots Q (pc + 1) (lv) (.long (x &&& z) :: rest) (w)) : tk_T y cc nL rt hh d kc ks ro cells slots Q (pc) (lv) (.long z :: .long x :: rest) (w) := by
  intro p l e s m args below meth c D dA A ad0 n0 I ad H locs ls g1 g2 g3 g4 g5 g6 g7
  exact lv_land I.1 I.2.1 hd (k p l e s m args below meth c D dA A ad0 n0 I ad H locs ls g1 g2 g3 g4 g5 g6 g7)
theorem tk_lor {x z : Int64} (hd : decode cc pc = .ok (.lor, 1)) (k : tk_T y cc nL rt hh d kc ks ro cells slots Q (pc + 1) (lv) (.long (x ||| z) :: rest) (w)) : tk_T y cc nL rt hh d kc ks ro cells slots Q (pc) (lv) (.long z :: .long x :: rest) (w) := by
  intro p l e s m args below meth c D dA A ad0 n0 I ad H locs ls g1 g2 g3 g4 g5 g6 g7
  exact lv_lor I.1 I.2.1 hd (k p l e s m args below meth c D dA A ad0 n0 I ad H locs ls g1 g2 g3 g4 g5 g6 g7)
theorem tk_lxor {x z : Int64} (hd : decode cc pc = .ok (.lxor, 1)) (k : tk_T y cc nL rt hh d kc ks ro cells slots Q (pc + 1) (lv) (.long (x ^^^ z) :: rest) (w)) : tk_T y cc nL rt hh d kc ks ro cells slots Q (pc) (lv) (.long z :: .long x :: rest) (w) := by
  intro p l e s m args below meth c D dA A ad0 n0 I ad H locs ls g1 g2 g3 g4 g5 g6 g7
  exact lv_lxor I.1 I.2.1 hd (k p l e s m args below meth c D dA A ad0 n0 I ad H locs ls g1 g2 g3 g4 g5 g6 g7)
theorem tk_idiv {x z : Int32} (hd : decode cc pc = .ok (.idiv, 1)) (hne : ¬ z = 0) (k : tk_T y cc nL rt hh d kc ks ro cells slots Q (pc + 1) (lv) (.int (x / z) :: rest) (w)) : tk_T y cc nL rt hh d kc ks ro cells slots Q (pc) (lv) (.int z :: .int x :: rest) (w) := by
  intro p l e s m args below meth c D dA A ad0 n0 I ad H locs ls g1 g2 g3 g4 g5 g6 g7
  exact lv_idiv I.1 I.2.1 hd hne (k p l e s m args below meth c D dA A ad0 n0 I ad H locs ls g1 g2 g3 g4 g5 g6 g7)
theorem tk_irem {x z : Int32} (hd : decode cc pc = .ok (.irem, 1)) (hne : ¬ z = 0) (k : tk_T y cc nL rt hh d kc ks ro cells slots Q (pc + 1) (lv) (.int (x - x / z * z) :: rest) (w)) : tk_T y cc nL rt hh d kc ks ro cells slots Q (pc) (lv) (.int z :: .int x :: rest) (w) := by
  intro p l e s m args below meth c D dA A ad0 n0 I ad H locs ls g1 g2 g3 g4 g5 g6 g7
  exact lv_irem I.1 I.2.1 hd hne (k p l e s m args below meth c D dA A ad0 n0 I ad H locs ls g1 g2 g3 g4 g5 g6 g7)
theorem tk_ldiv {x z : Int64} (hd : decode cc pc = .ok (.ldiv, 1)) (hne : ¬ z = 0) (k : tk_T y cc nL rt hh d kc ks ro cells slots Q (pc + 1) (lv) (.long (x / z) :: rest) (w)) : tk_T y cc nL rt hh d kc ks ro cells slots Q (pc) (lv) (.long z :: .long x :: rest) (w) := by
  intro p l e s m args below meth c D dA A ad0 n0 I ad H locs ls g1 g2 g3 g4 g5 g6 g7
  exact lv_ldiv I.1 I.2.1 hd hne (k p l e s m args below meth c D dA A ad0 n0 I ad H locs ls g1 g2 g3 g4 g5 g6 g7)
theorem tk_lrem {x z : Int64} (hd : decode cc pc = .ok (.lrem, 1)) (hne : ¬ z = 0) (k : tk_T y cc nL rt hh d kc ks ro cells slots Q (pc + 1) (lv) (.long (x - x / z * z) :: rest) (w)) : tk_T y cc nL rt hh d kc ks ro cells slots Q (pc) (lv) (.long z :: .long x :: rest) (w) := by
  intro p l e s m args below meth c D dA A ad0 n0 I ad H locs ls g1 g2 g3 g4 g5 g6 g7
  exact lv_lrem I.1 I.2.1 hd hne (k p l e s m args below meth c D dA A ad0 n0 I ad H locs ls g1 g2 g3 g4 g5 g6 g7)
theorem tk_ineg {x : Int32} (hd : decode cc pc = .ok (.ineg, 1)) (k : tk_T y cc nL rt hh d kc ks ro cells slots Q (pc + 1) (lv) (.int (-x) :: rest) (w)) : tk_T y cc nL rt hh d kc ks ro cells slots Q (pc) (lv) (.int x :: rest) (w) := by
  intro p l e s m args below meth c D dA A ad0 n0 I ad H locs ls g1 g2 g3 g4 g5 g6 g7
  exact lv_ineg I.1 I.2.1 hd (k p l e s m args below meth c D dA A ad0 n0 I ad H locs ls g1 g2 g3 g4 g5 g6 g7)
theorem tk_lneg {x : Int64} (hd : decode cc pc = .ok (.lneg, 1)) (k : tk_T y cc nL rt hh d kc ks ro cells slots Q (pc + 1) (lv) (.long (-x) :: rest) (w)) : tk_T y cc nL rt hh d kc ks ro cells slots Q (pc) (lv) (.long x :: rest) (w) := by
  intro p l e s m args below meth c D dA A ad0 n0 I ad H locs ls g1 g2 g3 g4 g5 g6 g7
  exact lv_lneg I.1 I.2.1 hd (k p l e s m args below meth c D dA A ad0 n0 I ad H locs ls g1 g2 g3 g4 g5 g6 g7)
theorem tk_ishl {x z : Int32} (hd : decode cc pc = .ok (.ishl, 1)) (k : tk_T y cc nL rt hh d kc ks ro cells slots Q (pc + 1) (lv) (.int (x <<< (z &&& 31)) :: rest) (w)) : tk_T y cc nL rt hh d kc ks ro cells slots Q (pc) (lv) (.int z :: .int x :: rest) (w) := by
  intro p l e s m args below meth c D dA A ad0 n0 I ad H locs ls g1 g2 g3 g4 g5 g6 g7
  exact lv_ishl I.1 I.2.1 hd (k p l e s m args below meth c D dA A ad0 n0 I ad H locs ls g1 g2 g3 g4 g5 g6 g7)
theorem tk_ishr {x z : Int32} (hd : decode cc pc = .ok (.ishr, 1)) (k : tk_T y cc nL rt hh d kc ks ro cells slots Q (pc + 1) (lv) (.int (x >>> (z &&& 31)) :: rest) (w)) : tk_T y cc nL rt hh d kc ks ro cells slots Q (pc) (lv) (.int z :: .int x :: rest) (w) := by
  intro p l e s m args below meth c D dA A ad0 n0 I ad H locs ls g1 g2 g3 g4 g5 g6 g7
  exact lv_ishr I.1 I.2.1 hd (k p l e s m args below meth c D dA A ad0 n0 I ad H locs ls g1 g2 g3 g4 g5 g6 g7)
theorem tk_iushr {x z : Int32} (hd : decode cc pc = .ok (.iushr, 1)) (k : tk_T y cc nL rt hh d kc ks ro cells slots Q (pc + 1) (lv) (.int (x.toUInt32 >>> (z.toUInt32 &&& Int32.toUInt32 31)).toInt32 :: rest) (w)) : tk_T y cc nL rt hh d kc ks ro cells slots Q (pc) (lv) (.int z :: .int x :: rest) (w) := by
  intro p l e s m args below meth c D dA A ad0 n0 I ad H locs ls g1 g2 g3 g4 g5 g6 g7
  exact lv_iushr I.1 I.2.1 hd rfl (k p l e s m args below meth c D dA A ad0 n0 I ad H locs ls g1 g2 g3 g4 g5 g6 g7)
theorem tk_lushr {x : Int64} {z : Int32} (hd : decode cc pc = .ok (.lushr, 1)) (k : tk_T y cc nL rt hh d kc ks ro cells slots Q (pc + 1) (lv) (.long (x.toUInt64 >>> (z.toInt64.toUInt64 &&& Int64.toUInt64 63)).toInt64 :: rest) (w)) : tk_T y cc nL rt hh d kc ks ro cells slots Q (pc) (lv) (.int z :: .long x :: rest) (w) := by
  intro p l e s m args below meth c D dA A ad0 n0 I ad H locs ls g1 g2 g3 g4 g5 g6 g7
  exact lv_lushr I.1 I.2.1 hd rfl (k p l e s m args below meth c D dA A ad0 n0 I ad H locs ls g1 g2 g3 g4 g5 g6 g7)
theorem tk_lshl {x : Int64} {z : Int32} (hd : decode cc pc = .ok (.lshl, 1)) (k : tk_T y cc nL rt hh d kc ks ro cells slots Q (pc + 1) (lv) (.long (x <<< (z.toInt64 &&& 63)) :: rest) (w)) : tk_T y cc nL rt hh d kc ks ro cells slots Q (pc) (lv) (.int z :: .long x :: rest) (w) := by
  intro p l e s m args below meth c D dA A ad0 n0 I ad H locs ls g1 g2 g3 g4 g5 g6 g7
  exact lv_lshl I.1 I.2.1 hd rfl (k p l e s m args below meth c D dA A ad0 n0 I ad H locs ls g1 g2 g3 g4 g5 g6 g7)
theorem tk_i2l {x : Int32} (hd : decode cc pc = .ok (.i2l, 1)) (k : tk_T y cc nL rt hh d kc ks ro cells slots Q (pc + 1) (lv) (.long x.toInt64 :: rest) (w)) : tk_T y cc nL rt hh d kc ks ro cells slots Q (pc) (lv) (.int x :: rest) (w) := by
  intro p l e s m args below meth c D dA A ad0 n0 I ad H locs ls g1 g2 g3 g4 g5 g6 g7
  exact lv_i2l I.1 I.2.1 hd rfl (k p l e s m args below meth c D dA A ad0 n0 I ad H locs ls g1 g2 g3 g4 g5 g6 g7)
theorem tk_l2i {x : Int64} (hd : decode cc pc = .ok (.l2i, 1)) (k : tk_T y cc nL rt hh d kc ks ro cells slots Q (pc + 1) (lv) (.int x.toInt32 :: rest) (w)) : tk_T y cc nL rt hh d kc ks ro cells slots Q (pc) (lv) (.long x :: rest) (w) := by
  intro p l e s m args below meth c D dA A ad0 n0 I ad H locs ls g1 g2 g3 g4 g5 g6 g7
  exact lv_l2i I.1 I.2.1 hd rfl (k p l e s m args below meth c D dA A ad0 n0 I ad H locs ls g1 g2 g3 g4 g5 g6 g7)
theorem tk_lcmp {x z : Int64} (hd : decode cc pc = .ok (.lcmp, 1)) (k : tk_T y cc nL rt hh d kc ks ro cells slots Q (pc + 1) (lv) (.int (lg_cmp x z) :: rest) (w)) : tk_T y cc nL rt hh d kc ks ro cells slots Q (pc) (lv) (.long z :: .long x :: rest) (w) := by
  intro p l e s m args below meth c D dA A ad0 n0 I ad H locs ls g1 g2 g3 g4 g5 g6 g7
  exact W.lcmp I.1 I.2.1 hd (k p l e s m args below meth c D dA A ad0 n0 I ad H locs ls g1 g2 g3 g4 g5 g6 g7)
theorem tk_dup {va : Value} (hd : decode cc pc = .ok (.dup, 1)) (h1 : va.category = 1) (k : tk_T y cc nL rt hh d kc ks ro cells slots Q (pc + 1) (lv) (va :: va :: rest) (w)) : tk_T y cc nL rt hh d kc ks ro cells slots Q (pc) (lv) (va :: rest) (w) := by
  intro p l e s m args below meth c D dA A ad0 n0 I ad H locs ls g1 g2 g3 g4 g5 g6 g7
  exact lv_dup I.1 I.2.1 hd (by rw [tk_cat]; exact h1) (k p l e s m args below meth c D dA A ad0 n0 I ad H locs ls g1 g2 g3 g4 g5 g6 g7)
theorem tk_pop {va : Value} (hd : decode cc pc = .ok (.pop, 1)) (h1 : va.category = 1) (k : tk_T y cc nL rt hh d kc ks ro cells slots Q (pc + 1) (lv) (rest) (w)) : tk_T y cc nL rt hh d kc ks ro cells slots Q (pc) (lv) (va :: rest) (w) := by
  intro p l e s m args below meth c D dA A ad0 n0 I ad H locs ls g1 g2 g3 g4 g5 g6 g7
  exact lv_pop I.1 I.2.1 hd (by rw [tk_cat]; exact h1) (k p l e s m args below meth c D dA A ad0 n0 I ad H locs ls g1 g2 g3 g4 g5 g6 g7)
theorem tk_dup_x1 {va vb : Value} (hd : decode cc pc = .ok (.dup_x1, 1)) (h1 : va.category = 1) (h2 : vb.category = 1) (k : tk_T y cc nL rt hh d kc ks ro cells slots Q (pc + 1) (lv) (va :: vb :: va :: rest) (w)) : tk_T y cc nL rt hh d kc ks ro cells slots Q (pc) (lv) (va :: vb :: rest) (w) := by
  intro p l e s m args below meth c D dA A ad0 n0 I ad H locs ls g1 g2 g3 g4 g5 g6 g7
  exact lv_dup_x1 I.1 I.2.1 hd (by rw [tk_cat]; exact h1) (by rw [tk_cat]; exact h2) (k p l e s m args below meth c D dA A ad0 n0 I ad H locs ls g1 g2 g3 g4 g5 g6 g7)
theorem tk_dup_x2 {va vb vd : Value} (hd : decode cc pc = .ok (.dup_x2, 1)) (h1 : va.category = 1) (h2 : vb.category = 1) (h3 : vd.category = 1) (k : tk_T y cc nL rt hh d kc ks ro cells slots Q (pc + 1) (lv) (va :: vb :: vd :: va :: rest) (w)) : tk_T y cc nL rt hh d kc ks ro cells slots Q (pc) (lv) (va :: vb :: vd :: rest) (w) := by
  intro p l e s m args below meth c D dA A ad0 n0 I ad H locs ls g1 g2 g3 g4 g5 g6 g7
  exact lv_dup_x2 I.1 I.2.1 hd (by rw [tk_cat]; exact h1) (by rw [tk_cat]; exact h2) (by rw [tk_cat]; exact h3) (k p l e s m args below meth c D dA A ad0 n0 I ad H locs ls g1 g2 g3 g4 g5 g6 g7)
theorem tk_dup2 {va vb : Value} (hd : decode cc pc = .ok (.dup2, 1)) (h1 : va.category = 1) (h2 : vb.category = 1) (k : tk_T y cc nL rt hh d kc ks ro cells slots Q (pc + 1) (lv) (va :: vb :: va :: vb :: rest) (w)) : tk_T y cc nL rt hh d kc ks ro cells slots Q (pc) (lv) (va :: vb :: rest) (w) := by
  intro p l e s m args below meth c D dA A ad0 n0 I ad H locs ls g1 g2 g3 g4 g5 g6 g7
  exact lv_dup2_11 I.1 I.2.1 hd (by rw [tk_cat]; exact h1) (by rw [tk_cat]; exact h2) (k p l e s m args below meth c D dA A ad0 n0 I ad H locs ls g1 g2 g3 g4 g5 g6 g7)
theorem tk_dup2L {va : Value} (hd : decode cc pc = .ok (.dup2, 1)) (h1 : va.category = 2) (k : tk_T y cc nL rt hh d kc ks ro cells slots Q (pc + 1) (lv) (va :: va :: rest) (w)) : tk_T y cc nL rt hh d kc ks ro cells slots Q (pc) (lv) (va :: rest) (w) := by
  intro p l e s m args below meth c D dA A ad0 n0 I ad H locs ls g1 g2 g3 g4 g5 g6 g7
  exact lv_dup2_2 I.1 I.2.1 hd (by rw [tk_cat]; exact h1) (k p l e s m args below meth c D dA A ad0 n0 I ad H locs ls g1 g2 g3 g4 g5 g6 g7)
theorem tk_iconst {n : Int} {v : Int32} (hd : decode cc pc = .ok (.iconst n, 1)) (hv : Int32.ofInt n = v) (k : tk_T y cc nL rt hh d kc ks ro cells slots Q (pc + 1) (lv) (.int v :: rest) (w)) : tk_T y cc nL rt hh d kc ks ro cells slots Q (pc) (lv) (rest) (w) := by
  intro p l e s m args below meth c D dA A ad0 n0 I ad H locs ls g1 g2 g3 g4 g5 g6 g7
  exact lv_iconst I.1 I.2.1 hd hv (k p l e s m args below meth c D dA A ad0 n0 I ad H locs ls g1 g2 g3 g4 g5 g6 g7)
theorem tk_bipush {n : Int} {v : Int32} (hd : decode cc pc = .ok (.bipush n, 2)) (hv : (Int8.ofInt n).toInt32 = v) (k : tk_T y cc nL rt hh d kc ks ro cells slots Q (pc + 2) (lv) (.int v :: rest) (w)) : tk_T y cc nL rt hh d kc ks ro cells slots Q (pc) (lv) (rest) (w) := by
  intro p l e s m args below meth c D dA A ad0 n0 I ad H locs ls g1 g2 g3 g4 g5 g6 g7
  exact lv_bipush I.1 I.2.1 hd hv (k p l e s m args below meth c D dA A ad0 n0 I ad H locs ls g1 g2 g3 g4 g5 g6 g7)
theorem tk_sipush {n : Int} {v : Int32} (hd : decode cc pc = .ok (.sipush n, 3)) (hv : (Int16.ofInt n).toInt32 = v) (k : tk_T y cc nL rt hh d kc ks ro cells slots Q (pc + 3) (lv) (.int v :: rest) (w)) : tk_T y cc nL rt hh d kc ks ro cells slots Q (pc) (lv) (rest) (w) := by
  intro p l e s m args below meth c D dA A ad0 n0 I ad H locs ls g1 g2 g3 g4 g5 g6 g7
  exact lv_sipush I.1 I.2.1 hd hv (k p l e s m args below meth c D dA A ad0 n0 I ad H locs ls g1 g2 g3 g4 g5 g6 g7)
theorem tk_lconst {n : Fin 2} {v : Int64} (hd : decode cc pc = .ok (.lconst n, 1)) (hv : Int64.ofNat (n : Nat) = v) (k : tk_T y cc nL rt hh d kc ks ro cells slots Q (pc + 1) (lv) (.long v :: rest) (w)) : tk_T y cc nL rt hh d kc ks ro cells slots Q (pc) (lv) (rest) (w) := by
  intro p l e s m args below meth c D dA A ad0 n0 I ad H locs ls g1 g2 g3 g4 g5 g6 g7
  exact lv_lconst I.1 I.2.1 hd hv (k p l e s m args below meth c D dA A ad0 n0 I ad H locs ls g1 g2 g3 g4 g5 g6 g7)
theorem tk_ldc {n : Nat} {v : Int32} (hd : decode cc pc = .ok (.ldc n, 2)) (hv : Cond.constant y.cls n v ∈ tk_tbl) (k : tk_T y cc nL rt hh d kc ks ro cells slots Q (pc + 2) (lv) (.int v :: rest) (w)) : tk_T y cc nL rt hh d kc ks ro cells slots Q (pc) (lv) (rest) (w) := by
  intro p l e s m args below meth c D dA A ad0 n0 I ad H locs ls g1 g2 g3 g4 g5 g6 g7
  exact lv_ldc I.1 I.2.1 I.2.2.2.2.2.2.1 (I.2.2.2.2.2.2.2.2.1 _ hv args) hd (k p l e s m args below meth c D dA A ad0 n0 I ad H locs ls g1 g2 g3 g4 g5 g6 g7)
theorem tk_ldc2 {n : Nat} {v : Int64} (hd : decode cc pc = .ok (.ldc2_w n, 3)) (hv : Cond.constantLong y.cls n v ∈ tk_tbl) (k : tk_T y cc nL rt hh d kc ks ro cells slots Q (pc + 3) (lv) (.long v :: rest) (w)) : tk_T y cc nL rt hh d kc ks ro cells slots Q (pc) (lv) (rest) (w) := by
  intro p l e s m args below meth c D dA A ad0 n0 I ad H locs ls g1 g2 g3 g4 g5 g6 g7
  exact lv_ldc2 I.1 I.2.1 I.2.2.2.2.2.2.1 (I.2.2.2.2.2.2.2.2.1 _ hv args) hd (k p l e s m args below meth c D dA A ad0 n0 I ad H locs ls g1 g2 g3 g4 g5 g6 g7)
theorem tk_iload_n {k : Fin 4} {x : Int32} (hd : decode cc pc = .ok (.iload_n k, 1)) (hl : lv[(k : Nat)]? = some (some (.int x))) (kk : tk_T y cc nL rt hh d kc ks ro cells slots Q (pc + 1) (lv) (.int x :: rest) (w)) : tk_T y cc nL rt hh d kc ks ro cells slots Q (pc) (lv) (rest) (w) := by
  intro p l e s m args below meth c D dA A ad0 n0 I ad H locs ls g1 g2 g3 g4 g5 g6 g7
  exact lv_iload_n I.1 I.2.1 hd rfl (g7.2.2 _ _ hl) (kk p l e s m args below meth c D dA A ad0 n0 I ad H locs ls g1 g2 g3 g4 g5 g6 g7)
theorem tk_iload {i : Nat} {x : Int32} (hd : decode cc pc = .ok (.iload i, 2)) (hl : lv[i]? = some (some (.int x))) (kk : tk_T y cc nL rt hh d kc ks ro cells slots Q (pc + 2) (lv) (.int x :: rest) (w)) : tk_T y cc nL rt hh d kc ks ro cells slots Q (pc) (lv) (rest) (w) := by
  intro p l e s m args below meth c D dA A ad0 n0 I ad H locs ls g1 g2 g3 g4 g5 g6 g7
  exact lv_iload I.1 I.2.1 hd (g7.2.2 _ _ hl) (kk p l e s m args below meth c D dA A ad0 n0 I ad H locs ls g1 g2 g3 g4 g5 g6 g7)
theorem tk_lload_n {k : Fin 4} {x : Int64} (hd : decode cc pc = .ok (.lload_n k, 1)) (hl : lv[(k : Nat)]? = some (some (.long x))) (kk : tk_T y cc nL rt hh d kc ks ro cells slots Q (pc + 1) (lv) (.long x :: rest) (w)) : tk_T y cc nL rt hh d kc ks ro cells slots Q (pc) (lv) (rest) (w) := by
  intro p l e s m args below meth c D dA A ad0 n0 I ad H locs ls g1 g2 g3 g4 g5 g6 g7
  exact lv_lload_n I.1 I.2.1 hd rfl (g7.2.2 _ _ hl) (kk p l e s m args below meth c D dA A ad0 n0 I ad H locs ls g1 g2 g3 g4 g5 g6 g7)
theorem tk_lload {i : Nat} {x : Int64} (hd : decode cc pc = .ok (.lload i, 2)) (hl : lv[i]? = some (some (.long x))) (kk : tk_T y cc nL rt hh d kc ks ro cells slots Q (pc + 2) (lv) (.long x :: rest) (w)) : tk_T y cc nL rt hh d kc ks ro cells slots Q (pc) (lv) (rest) (w) := by
  intro p l e s m args below meth c D dA A ad0 n0 I ad H locs ls g1 g2 g3 g4 g5 g6 g7
  exact lv_lload I.1 I.2.1 hd (g7.2.2 _ _ hl) (kk p l e s m args below meth c D dA A ad0 n0 I ad H locs ls g1 g2 g3 g4 g5 g6 g7)
theorem tk_aload_n {k : Fin 4} {x : Nat} (hd : decode cc pc = .ok (.aload_n k, 1)) (hl : lv[(k : Nat)]? = some (some (.ref x))) (kk : tk_T y cc nL rt hh d kc ks ro cells slots Q (pc + 1) (lv) (.ref x :: rest) (w)) : tk_T y cc nL rt hh d kc ks ro cells slots Q (pc) (lv) (rest) (w) := by
  intro p l e s m args below meth c D dA A ad0 n0 I ad H locs ls g1 g2 g3 g4 g5 g6 g7
  exact lv_aload_n I.1 I.2.1 hd rfl (g7.2.2 _ _ hl) (kk p l e s m args below meth c D dA A ad0 n0 I ad H locs ls g1 g2 g3 g4 g5 g6 g7)
theorem tk_aload {i : Nat} {x : Nat} (hd : decode cc pc = .ok (.aload i, 2)) (hl : lv[i]? = some (some (.ref x))) (kk : tk_T y cc nL rt hh d kc ks ro cells slots Q (pc + 2) (lv) (.ref x :: rest) (w)) : tk_T y cc nL rt hh d kc ks ro cells slots Q (pc) (lv) (rest) (w) := by
  intro p l e s m args below meth c D dA A ad0 n0 I ad H locs ls g1 g2 g3 g4 g5 g6 g7
  exact lv_aload I.1 I.2.1 hd (g7.2.2 _ _ hl) (kk p l e s m args below meth c D dA A ad0 n0 I ad H locs ls g1 g2 g3 g4 g5 g6 g7)
theorem tk_istore_g {i : Nat} {x : Int32} (hd : decode cc pc = .ok (.istore i, 2)) (hp : tk_pc lv i = true) (hn : i < nL) (kk : tk_T y cc nL rt hh d kc ks ro cells slots Q (pc + 2) (lv.set i (some (.int x))) (rest) (w)) : tk_T y cc nL rt hh d kc ks ro cells slots Q (pc) (lv) (.int x :: rest) (w) := by
  intro p l e s m args below meth c D dA A ad0 n0 I ad H locs ls g1 g2 g3 g4 g5 g6 g7
  exact lv_istore I.1 I.2.1 hd g7.has hn rfl (fun ls' h' => kk p l e s m args below meth c D dA A ad0 n0 I ad H locs ls' g1 g2 g3 g4 g5 g6 (tk_L.st1 (v := .int x) hp h'))
theorem tk_istore_ng {k : Fin 4} {i : Nat} {x : Int32} (hd : decode cc pc = .ok (.istore_n k, 1)) (hi : (k : Nat) = i) (hp : tk_pc lv i = true) (hn : i < nL) (kk : tk_T y cc nL rt hh d kc ks ro cells slots Q (pc + 1) (lv.set i (some (.int x))) (rest) (w)) : tk_T y cc nL rt hh d kc ks ro cells slots Q (pc) (lv) (.int x :: rest) (w) := by
  intro p l e s m args below meth c D dA A ad0 n0 I ad H locs ls g1 g2 g3 g4 g5 g6 g7
  exact lv_istore_n I.1 I.2.1 hd hi g7.has hn rfl (fun ls' h' => kk p l e s m args below meth c D dA A ad0 n0 I ad H locs ls' g1 g2 g3 g4 g5 g6 (tk_L.st1 (v := .int x) hp h'))
theorem tk_lstore_g {i : Nat} {x : Int64} (hd : decode cc pc = .ok (.lstore i, 2)) (hp : tk_pc lv i = true) (hn : i + 1 < nL) (kk : tk_T y cc nL rt hh d kc ks ro cells slots Q (pc + 2) ((lv.set i (some (.long x))).set (i + 1) none) (rest) (w)) : tk_T y cc nL rt hh d kc ks ro cells slots Q (pc) (lv) (.long x :: rest) (w) := by
  intro p l e s m args below meth c D dA A ad0 n0 I ad H locs ls g1 g2 g3 g4 g5 g6 g7
  exact lv_lstore I.1 I.2.1 hd g7.has hn rfl (fun ls' h' => kk p l e s m args below meth c D dA A ad0 n0 I ad H locs ls' g1 g2 g3 g4 g5 g6 (tk_L.st2 (v := .long x) hp h'))
theorem tk_lstore_ng {k : Fin 4} {i : Nat} {x : Int64} (hd : decode cc pc = .ok (.lstore_n k, 1)) (hi : (k : Nat) = i) (hp : tk_pc lv i = true) (hn : i + 1 < nL) (kk : tk_T y cc nL rt hh d kc ks ro cells slots Q (pc + 1) ((lv.set i (some (.long x))).set (i + 1) none) (rest) (w)) : tk_T y cc nL rt hh d kc ks ro cells slots Q (pc) (lv) (.long x :: rest) (w) := by
  intro p l e s m args below meth c D dA A ad0 n0 I ad H locs ls g1 g2 g3 g4 g5 g6 g7
  exact lv_lstore_n I.1 I.2.1 hd hi g7.has hn rfl (fun ls' h' => kk p l e s m args below meth c D dA A ad0 n0 I ad H locs ls' g1 g2 g3 g4 g5 g6 (tk_L.st2 (v := .long x) hp h'))
theorem tk_astore_g {i : Nat} {x : Nat} (hd : decode cc pc = .ok (.astore i, 2)) (hp : tk_pc lv i = true) (hn : i < nL) (kk : tk_T y cc nL rt hh d kc ks ro cells slots Q (pc + 2) (lv.set i (some (.ref x))) (rest) (w)) : tk_T y cc nL rt hh d kc ks ro cells slots Q (pc) (lv) (.ref x :: rest) (w) := by
  intro p l e s m args below meth c D dA A ad0 n0 I ad H locs ls g1 g2 g3 g4 g5 g6 g7
  exact lv_astore I.1 I.2.1 hd g7.has hn rfl (fun ls' h' => kk p l e s m args below meth c D dA A ad0 n0 I ad H locs ls' g1 g2 g3 g4 g5 g6 (tk_L.st1 (v := .ref x) hp h'))
theorem tk_astore_ng {k : Fin 4} {i : Nat} {x : Nat} (hd : decode cc pc = .ok (.astore_n k, 1)) (hi : (k : Nat) = i) (hp : tk_pc lv i = true) (hn : i < nL) (kk : tk_T y cc nL rt hh d kc ks ro cells slots Q (pc + 1) (lv.set i (some (.ref x))) (rest) (w)) : tk_T y cc nL rt hh d kc ks ro cells slots Q (pc) (lv) (.ref x :: rest) (w) := by
  intro p l e s m args below meth c D dA A ad0 n0 I ad H locs ls g1 g2 g3 g4 g5 g6 g7
  exact lv_astore_n I.1 I.2.1 hd hi g7.has hn rfl (fun ls' h' => kk p l e s m args below meth c D dA A ad0 n0 I ad H locs ls' g1 g2 g3 g4 g5 g6 (tk_L.st1 (v := .ref x) hp h'))
theorem tk_iinc_g {i : Nat} {n : Int} {x : Int32} (hd : decode cc pc = .ok (.iinc i n, 3)) (hl : lv[i]? = some (some (.int x))) (hp : tk_pc lv i = true) (hn : i < nL) (kk : tk_T y cc nL rt hh d kc ks ro cells slots Q (pc + 3) (lv.set i (some (.int (x + Int32.ofInt n)))) (rest) (w)) : tk_T y cc nL rt hh d kc ks ro cells slots Q (pc) (lv) (rest) (w) := by
  intro p l e s m args below meth c D dA A ad0 n0 I ad H locs ls g1 g2 g3 g4 g5 g6 g7
  obtain ⟨j, hj⟩ := List.getElem?_of_mem (tk_pr_in (ad := ad) hl)
  exact lv_iinc I.1 I.2.1 hd g7.has hj rfl hn rfl (fun ls' h' => kk p l e s m args below meth c D dA A ad0 n0 I ad H locs ls' g1 g2 g3 g4 g5 g6 (tk_L.st1 (v := .int (x + Int32.ofInt n)) hp h'))
theorem tk_istore0 {b0 : Option Value} {r : List (Option Value)} {x : Int32} (hd : decode cc pc = .ok (.istore_n 0, 1))  (hn : 0 < nL) (kk : tk_T y cc nL rt hh d kc ks ro cells slots Q (pc + 1) (some (.int x) :: r) (rest) (w)) : tk_T y cc nL rt hh d kc ks ro cells slots Q (pc) (b0 :: r) (.int x :: rest) (w) := tk_istore_ng (lv := b0 :: r) (k := 0) (i := 0) hd rfl rfl hn kk
theorem tk_lstore0 {b0 b1 : Option Value} {r : List (Option Value)} {x : Int64} (hd : decode cc pc = .ok (.lstore_n 0, 1))  (hn : 0 + 1 < nL) (kk : tk_T y cc nL rt hh d kc ks ro cells slots Q (pc + 1) (some (.long x) :: none :: r) (rest) (w)) : tk_T y cc nL rt hh d kc ks ro cells slots Q (pc) (b0 :: b1 :: r) (.long x :: rest) (w) := tk_lstore_ng (lv := b0 :: b1 :: r) (k := 0) (i := 0) hd rfl rfl hn kk
theorem tk_astore0 {b0 : Option Value} {r : List (Option Value)} {x : Nat} (hd : decode cc pc = .ok (.astore_n 0, 1))  (hn : 0 < nL) (kk : tk_T y cc nL rt hh d kc ks ro cells slots Q (pc + 1) (some (.ref x) :: r) (rest) (w)) : tk_T y cc nL rt hh d kc ks ro cells slots Q (pc) (b0 :: r) (.ref x :: rest) (w) := tk_astore_ng (lv := b0 :: r) (k := 0) (i := 0) hd rfl rfl hn kk
theorem tk_iinc0 {b0 : Option Value} {r : List (Option Value)} {n : Int} {x : Int32} (hd : decode cc pc = .ok (.iinc 0 n, 3))  (hn : 0 < nL) (kk : tk_T y cc nL rt hh d kc ks ro cells slots Q (pc + 3) (some (.int (x + Int32.ofInt n)) :: r) (rest) (w)) : tk_T y cc nL rt hh d kc ks ro cells slots Q (pc) (some (.int x) :: r) (rest) (w) := tk_iinc_g (lv := some (.int x) :: r) (i := 0) hd rfl rfl hn kk
theorem tk_istore1 {a0 b0 : Option Value} {r : List (Option Value)} {x : Int32} (hd : decode cc pc = .ok (.istore_n 1, 1)) (hp : tk_p1 a0 = true) (hn : 1 < nL) (kk : tk_T y cc nL rt hh d kc ks ro cells slots Q (pc + 1) (a0 :: some (.int x) :: r) (rest) (w)) : tk_T y cc nL rt hh d kc ks ro cells slots Q (pc) (a0 :: b0 :: r) (.int x :: rest) (w) := tk_istore_ng (lv := a0 :: b0 :: r) (k := 1) (i := 1) hd rfl hp hn kk
theorem tk_lstore1 {a0 b0 b1 : Option Value} {r : List (Option Value)} {x : Int64} (hd : decode cc pc = .ok (.lstore_n 1, 1)) (hp : tk_p1 a0 = true) (hn : 1 + 1 < nL) (kk : tk_T y cc nL rt hh d kc ks ro cells slots Q (pc + 1) (a0 :: some (.long x) :: none :: r) (rest) (w)) : tk_T y cc nL rt hh d kc ks ro cells slots Q (pc) (a0 :: b0 :: b1 :: r) (.long x :: rest) (w) := tk_lstore_ng (lv := a0 :: b0 :: b1 :: r) (k := 1) (i := 1) hd rfl hp hn kk
theorem tk_astore1 {a0 b0 : Option Value} {r : List (Option Value)} {x : Nat} (hd : decode cc pc = .ok (.astore_n 1, 1)) (hp : tk_p1 a0 = true) (hn : 1 < nL) (kk : tk_T y cc nL rt hh d kc ks ro cells slots Q (pc + 1) (a0 :: some (.ref x) :: r) (rest) (w)) : tk_T y cc nL rt hh d kc ks ro cells slots Q (pc) (a0 :: b0 :: r) (.ref x :: rest) (w) := tk_astore_ng (lv := a0 :: b0 :: r) (k := 1) (i := 1) hd rfl hp hn kk
theorem tk_iinc1 {a0 b0 : Option Value} {r : List (Option Value)} {n : Int} {x : Int32} (hd : decode cc pc = .ok (.iinc 1 n, 3)) (hp : tk_p1 a0 = true) (hn : 1 < nL) (kk : tk_T y cc nL rt hh d kc ks ro cells slots Q (pc + 3) (a0 :: some (.int (x + Int32.ofInt n)) :: r) (rest) (w)) : tk_T y cc nL rt hh d kc ks ro cells slots Q (pc) (a0 :: some (.int x) :: r) (rest) (w) := tk_iinc_g (lv := a0 :: some (.int x) :: r) (i := 1) hd rfl hp hn kk
theorem tk_istore2 {a0 a1 b0 : Option Value} {r : List (Option Value)} {x : Int32} (hd : decode cc pc = .ok (.istore_n 2, 1)) (hp : tk_p1 a1 = true) (hn : 2 < nL) (kk : tk_T y cc nL rt hh d kc ks ro cells slots Q (pc + 1) (a0 :: a1 :: some (.int x) :: r) (rest) (w)) : tk_T y cc nL rt hh d kc ks ro cells slots Q (pc) (a0 :: a1 :: b0 :: r) (.int x :: rest) (w) := tk_istore_ng (lv := a0 :: a1 :: b0 :: r) (k := 2) (i := 2) hd rfl hp hn kk
theorem tk_lstore2 {a0 a1 b0 b1 : Option Value} {r : List (Option Value)} {x : Int64} (hd : decode cc pc = .ok (.lstore_n 2, 1)) (hp : tk_p1 a1 = true) (hn : 2 + 1 < nL) (kk : tk_T y cc nL rt hh d kc ks ro cells slots Q (pc + 1) (a0 :: a1 :: some (.long x) :: none :: r) (rest) (w)) : tk_T y cc nL rt hh d kc ks ro cells slots Q (pc) (a0 :: a1 :: b0 :: b1 :: r) (.long x :: rest) (w) := tk_lstore_ng (lv := a0 :: a1 :: b0 :: b1 :: r) (k := 2) (i := 2) hd rfl hp hn kk
theorem tk_astore2 {a0 a1 b0 : Option Value} {r : List (Option Value)} {x : Nat} (hd : decode cc pc = .ok (.astore_n 2, 1)) (hp : tk_p1 a1 = true) (hn : 2 < nL) (kk : tk_T y cc nL rt hh d kc ks ro cells slots Q (pc + 1) (a0 :: a1 :: some (.ref x) :: r) (rest) (w)) : tk_T y cc nL rt hh d kc ks ro cells slots Q (pc) (a0 :: a1 :: b0 :: r) (.ref x :: rest) (w) := tk_astore_ng (lv := a0 :: a1 :: b0 :: r) (k := 2) (i := 2) hd rfl hp hn kk
theorem tk_iinc2 {a0 a1 b0 : Option Value} {r : List (Option Value)} {n : Int} {x : Int32} (hd : decode cc pc = .ok (.iinc 2 n, 3)) (hp : tk_p1 a1 = true) (hn : 2 < nL) (kk : tk_T y cc nL rt hh d kc ks ro cells slots Q (pc + 3) (a0 :: a1 :: some (.int (x + Int32.ofInt n)) :: r) (rest) (w)) : tk_T y cc nL rt hh d kc ks ro cells slots Q (pc) (a0 :: a1 :: some (.int x) :: r) (rest) (w) := tk_iinc_g (lv := a0 :: a1 :: some (.int x) :: r) (i := 2) hd rfl hp hn kk
theorem tk_istore3 {a0 a1 a2 b0 : Option Value} {r : List (Option Value)} {x : Int32} (hd : decode cc pc = .ok (.istore_n 3, 1)) (hp : tk_p1 a2 = true) (hn : 3 < nL) (kk : tk_T y cc nL rt hh d kc ks ro cells slots Q (pc + 1) (a0 :: a1 :: a2 :: some (.int x) :: r) (rest) (w)) : tk_T y cc nL rt hh d kc ks ro cells slots Q (pc) (a0 :: a1 :: a2 :: b0 :: r) (.int x :: rest) (w) := tk_istore_ng (lv := a0 :: a1 :: a2 :: b0 :: r) (k := 3) (i := 3) hd rfl hp hn kk
theorem tk_lstore3 {a0 a1 a2 b0 b1 : Option Value} {r : List (Option Value)} {x : Int64} (hd : decode cc pc = .ok (.lstore_n 3, 1)) (hp : tk_p1 a2 = true) (hn : 3 + 1 < nL) (kk : tk_T y cc nL rt hh d kc ks ro cells slots Q (pc + 1) (a0 :: a1 :: a2 :: some (.long x) :: none :: r) (rest) (w)) : tk_T y cc nL rt hh d kc ks ro cells slots Q (pc) (a0 :: a1 :: a2 :: b0 :: b1 :: r) (.long x :: rest) (w) := tk_lstore_ng (lv := a0 :: a1 :: a2 :: b0 :: b1 :: r) (k := 3) (i := 3) hd rfl hp hn kk
theorem tk_astore3 {a0 a1 a2 b0 : Option Value} {r : List (Option Value)} {x : Nat} (hd : decode cc pc = .ok (.astore_n 3, 1)) (hp : tk_p1 a2 = true) (hn : 3 < nL) (kk : tk_T y cc nL rt hh d kc ks ro cells slots Q (pc + 1) (a0 :: a1 :: a2 :: some (.ref x) :: r) (rest) (w)) : tk_T y cc nL rt hh d kc ks ro cells slots Q (pc) (a0 :: a1 :: a2 :: b0 :: r) (.ref x :: rest) (w) := tk_astore_ng (lv := a0 :: a1 :: a2 :: b0 :: r) (k := 3) (i := 3) hd rfl hp hn kk
theorem tk_iinc3 {a0 a1 a2 b0 : Option Value} {r : List (Option Value)} {n : Int} {x : Int32} (hd : decode cc pc = .ok (.iinc 3 n, 3)) (hp : tk_p1 a2 = true) (hn : 3 < nL) (kk : tk_T y cc nL rt hh d kc ks ro cells slots Q (pc + 3) (a0 :: a1 :: a2 :: some (.int (x + Int32.ofInt n)) :: r) (rest) (w)) : tk_T y cc nL rt hh d kc ks ro cells slots Q (pc) (a0 :: a1 :: a2 :: some (.int x) :: r) (rest) (w) := tk_iinc_g (lv := a0 :: a1 :: a2 :: some (.int x) :: r) (i := 3) hd rfl hp hn kk
theorem tk_istore4 {a0 a1 a2 a3 b0 : Option Value} {r : List (Option Value)} {x : Int32} (hd : decode cc pc = .ok (.istore 4, 2)) (hp : tk_p1 a3 = true) (hn : 4 < nL) (kk : tk_T y cc nL rt hh d kc ks ro cells slots Q (pc + 2) (a0 :: a1 :: a2 :: a3 :: some (.int x) :: r) (rest) (w)) : tk_T y cc nL rt hh d kc ks ro cells slots Q (pc) (a0 :: a1 :: a2 :: a3 :: b0 :: r) (.int x :: rest) (w) := tk_istore_g (lv := a0 :: a1 :: a2 :: a3 :: b0 :: r) (i := 4) hd hp hn kk
theorem tk_lstore4 {a0 a1 a2 a3 b0 b1 : Option Value} {r : List (Option Value)} {x : Int64} (hd : decode cc pc = .ok (.lstore 4, 2)) (hp : tk_p1 a3 = true) (hn : 4 + 1 < nL) (kk : tk_T y cc nL rt hh d kc ks ro cells slots Q (pc + 2) (a0 :: a1 :: a2 :: a3 :: some (.long x) :: none :: r) (rest) (w)) : tk_T y cc nL rt hh d kc ks ro cells slots Q (pc) (a0 :: a1 :: a2 :: a3 :: b0 :: b1 :: r) (.long x :: rest) (w) := tk_lstore_g (lv := a0 :: a1 :: a2 :: a3 :: b0 :: b1 :: r) (i := 4) hd hp hn kk
theorem tk_astore4 {a0 a1 a2 a3 b0 : Option Value} {r : List (Option Value)} {x : Nat} (hd : decode cc pc = .ok (.astore 4, 2)) (hp : tk_p1 a3 = true) (hn : 4 < nL) (kk : tk_T y cc nL rt hh d kc ks ro cells slots Q (pc + 2) (a0 :: a1 :: a2 :: a3 :: some (.ref x) :: r) (rest) (w)) : tk_T y cc nL rt hh d kc ks ro cells slots Q (pc) (a0 :: a1 :: a2 :: a3 :: b0 :: r) (.ref x :: rest) (w) := tk_astore_g (lv := a0 :: a1 :: a2 :: a3 :: b0 :: r) (i := 4) hd hp hn kk
theorem tk_iinc4 {a0 a1 a2 a3 b0 : Option Value} {r : List (Option Value)} {n : Int} {x : Int32} (hd : decode cc pc = .ok (.iinc 4 n, 3)) (hp : tk_p1 a3 = true) (hn : 4 < nL) (kk : tk_T y cc nL rt hh d kc ks ro cells slots Q (pc + 3) (a0 :: a1 :: a2 :: a3 :: some (.int (x + Int32.ofInt n)) :: r) (rest) (w)) : tk_T y cc nL rt hh d kc ks ro cells slots Q (pc) (a0 :: a1 :: a2 :: a3 :: some (.int x) :: r) (rest) (w) := tk_iinc_g (lv := a0 :: a1 :: a2 :: a3 :: some (.int x) :: r) (i := 4) hd rfl hp hn kk
theorem tk_istore5 {a0 a1 a2 a3 a4 b0 : Option Value} {r : List (Option Value)} {x : Int32} (hd : decode cc pc = .ok (.istore 5, 2)) (hp : tk_p1 a4 = true) (hn : 5 < nL) (kk : tk_T y cc nL rt hh d kc ks ro cells slots Q (pc + 2) (a0 :: a1 :: a2 :: a3 :: a4 :: some (.int x) :: r) (rest) (w)) : tk_T y cc nL rt hh d kc ks ro cells slots Q (pc) (a0 :: a1 :: a2 :: a3 :: a4 :: b0 :: r) (.int x :: rest) (w) := tk_istore_g (lv := a0 :: a1 :: a2 :: a3 :: a4 :: b0 :: r) (i := 5) hd hp hn kk
theorem tk_lstore5 {a0 a1 a2 a3 a4 b0 b1 : Option Value} {r : List (Option Value)} {x : Int64} (hd : decode cc pc = .ok (.lstore 5, 2)) (hp : tk_p1 a4 = true) (hn : 5 + 1 < nL) (kk : tk_T y cc nL rt hh d kc ks ro cells slots Q (pc + 2) (a0 :: a1 :: a2 :: a3 :: a4 :: some (.long x) :: none :: r) (rest) (w)) : tk_T y cc nL rt hh d kc ks ro cells slots Q (pc) (a0 :: a1 :: a2 :: a3 :: a4 :: b0 :: b1 :: r) (.long x :: rest) (w) := tk_lstore_g (lv := a0 :: a1 :: a2 :: a3 :: a4 :: b0 :: b1 :: r) (i := 5) hd hp hn kk
theorem tk_astore5 {a0 a1 a2 a3 a4 b0 : Option Value} {r : List (Option Value)} {x : Nat} (hd : decode cc pc = .ok (.astore 5, 2)) (hp : tk_p1 a4 = true) (hn : 5 < nL) (kk : tk_T y cc nL rt hh d kc ks ro cells slots Q (pc + 2) (a0 :: a1 :: a2 :: a3 :: a4 :: some (.ref x) :: r) (rest) (w)) : tk_T y cc nL rt hh d kc ks ro cells slots Q (pc) (a0 :: a1 :: a2 :: a3 :: a4 :: b0 :: r) (.ref x :: rest) (w) := tk_astore_g (lv := a0 :: a1 :: a2 :: a3 :: a4 :: b0 :: r) (i := 5) hd hp hn kk
theorem tk_iinc5 {a0 a1 a2 a3 a4 b0 : Option Value} {r : List (Option Value)} {n : Int} {x : Int32} (hd : decode cc pc = .ok (.iinc 5 n, 3)) (hp : tk_p1 a4 = true) (hn : 5 < nL) (kk : tk_T y cc nL rt hh d kc ks ro cells slots Q (pc + 3) (a0 :: a1 :: a2 :: a3 :: a4 :: some (.int (x + Int32.ofInt n)) :: r) (rest) (w)) : tk_T y cc nL rt hh d kc ks ro cells slots Q (pc) (a0 :: a1 :: a2 :: a3 :: a4 :: some (.int x) :: r) (rest) (w) := tk_iinc_g (lv := a0 :: a1 :: a2 :: a3 :: a4 :: some (.int x) :: r) (i := 5) hd rfl hp hn kk
theorem tk_istore6 {a0 a1 a2 a3 a4 a5 b0 : Option Value} {r : List (Option Value)} {x : Int32} (hd : decode cc pc = .ok (.istore 6, 2)) (hp : tk_p1 a5 = true) (hn : 6 < nL) (kk : tk_T y cc nL rt hh d kc ks ro cells slots Q (pc + 2) (a0 :: a1 :: a2 :: a3 :: a4 :: a5 :: some (.int x) :: r) (rest) (w)) : tk_T y cc nL rt hh d kc ks ro cells slots Q (pc) (a0 :: a1 :: a2 :: a3 :: a4 :: a5 :: b0 :: r) (.int x :: rest) (w) := tk_istore_g (lv := a0 :: a1 :: a2 :: a3 :: a4 :: a5 :: b0 :: r) (i := 6) hd hp hn kk
theorem tk_lstore6 {a0 a1 a2 a3 a4 a5 b0 b1 : Option Value} {r : List (Option Value)} {x : Int64} (hd : decode cc pc = .ok (.lstore 6, 2)) (hp : tk_p1 a5 = true) (hn : 6 + 1 < nL) (kk : tk_T y cc nL rt hh d kc ks ro cells slots Q (pc + 2) (a0 :: a1 :: a2 :: a3 :: a4 :: a5 :: some (.long x) :: none :: r) (rest) (w)) : tk_T y cc nL rt hh d kc ks ro cells slots Q (pc) (a0 :: a1 :: a2 :: a3 :: a4 :: a5 :: b0 :: b1 :: r) (.long x :: rest) (w) := tk_lstore_g (lv := a0 :: a1 :: a2 :: a3 :: a4 :: a5 :: b0 :: b1 :: r) (i := 6) hd hp hn kk
theorem tk_astore6 {a0 a1 a2 a3 a4 a5 b0 : Option Value} {r : List (Option Value)} {x : Nat} (hd : decode cc pc = .ok (.astore 6, 2)) (hp : tk_p1 a5 = true) (hn : 6 < nL) (kk : tk_T y cc nL rt hh d kc ks ro cells slots Q (pc + 2) (a0 :: a1 :: a2 :: a3 :: a4 :: a5 :: some (.ref x) :: r) (rest) (w)) : tk_T y cc nL rt hh d kc ks ro cells slots Q (pc) (a0 :: a1 :: a2 :: a3 :: a4 :: a5 :: b0 :: r) (.ref x :: rest) (w) := tk_astore_g (lv := a0 :: a1 :: a2 :: a3 :: a4 :: a5 :: b0 :: r) (i := 6) hd hp hn kk
theorem tk_iinc6 {a0 a1 a2 a3 a4 a5 b0 : Option Value} {r : List (Option Value)} {n : Int} {x : Int32} (hd : decode cc pc = .ok (.iinc 6 n, 3)) (hp : tk_p1 a5 = true) (hn : 6 < nL) (kk : tk_T y cc nL rt hh d kc ks ro cells slots Q (pc + 3) (a0 :: a1 :: a2 :: a3 :: a4 :: a5 :: some (.int (x + Int32.ofInt n)) :: r) (rest) (w)) : tk_T y cc nL rt hh d kc ks ro cells slots Q (pc) (a0 :: a1 :: a2 :: a3 :: a4 :: a5 :: some (.int x) :: r) (rest) (w) := tk_iinc_g (lv := a0 :: a1 :: a2 :: a3 :: a4 :: a5 :: some (.int x) :: r) (i := 6) hd rfl hp hn kk
theorem tk_istore7 {a0 a1 a2 a3 a4 a5 a6 b0 : Option Value} {r : List (Option Value)} {x : Int32} (hd : decode cc pc = .ok (.istore 7, 2)) (hp : tk_p1 a6 = true) (hn : 7 < nL) (kk : tk_T y cc nL rt hh d kc ks ro cells slots Q (pc + 2) (a0 :: a1 :: a2 :: a3 :: a4 :: a5 :: a6 :: some (.int x) :: r) (rest) (w)) : tk_T y cc nL rt hh d kc ks ro cells slots Q (pc) (a0 :: a1 :: a2 :: a3 :: a4 :: a5 :: a6 :: b0 :: r) (.int x :: rest) (w) := tk_istore_g (lv := a0 :: a1 :: a2 :: a3 :: a4 :: a5 :: a6 :: b0 :: r) (i := 7) hd hp hn kk
theorem tk_lstore7 {a0 a1 a2 a3 a4 a5 a6 b0 b1 : Option Value} {r : List (Option Value)} {x : Int64} (hd : decode cc pc = .ok (.lstore 7, 2)) (hp : tk_p1 a6 = true) (hn : 7 + 1 < nL) (kk : tk_T y cc nL rt hh d kc ks ro cells slots Q (pc + 2) (a0 :: a1 :: a2 :: a3 :: a4 :: a5 :: a6 :: some (.long x) :: none :: r) (rest) (w)) : tk_T y cc nL rt hh d kc ks ro cells slots Q (pc) (a0 :: a1 :: a2 :: a3 :: a4 :: a5 :: a6 :: b0 :: b1 :: r) (.long x :: rest) (w) := tk_lstore_g (lv := a0 :: a1 :: a2 :: a3 :: a4 :: a5 :: a6 :: b0 :: b1 :: r) (i := 7) hd hp hn kk
theorem tk_astore7 {a0 a1 a2 a3 a4 a5 a6 b0 : Option Value} {r : List (Option Value)} {x : Nat} (hd : decode cc pc = .ok (.astore 7, 2)) (hp : tk_p1 a6 = true) (hn : 7 < nL) (kk : tk_T y cc nL rt hh d kc ks ro cells slots Q (pc + 2) (a0 :: a1 :: a2 :: a3 :: a4 :: a5 :: a6 :: some (.ref x) :: r) (rest) (w)) : tk_T y cc nL rt hh d kc ks ro cells slots Q (pc) (a0 :: a1 :: a2 :: a3 :: a4 :: a5 :: a6 :: b0 :: r) (.ref x :: rest) (w) := tk_astore_g (lv := a0 :: a1 :: a2 :: a3 :: a4 :: a5 :: a6 :: b0 :: r) (i := 7) hd hp hn kk
theorem tk_iinc7 {a0 a1 a2 a3 a4 a5 a6 b0 : Option Value} {r : List (Option Value)} {n : Int} {x : Int32} (hd : decode cc pc = .ok (.iinc 7 n, 3)) (hp : tk_p1 a6 = true) (hn : 7 < nL) (kk : tk_T y cc nL rt hh d kc ks ro cells slots Q (pc + 3) (a0 :: a1 :: a2 :: a3 :: a4 :: a5 :: a6 :: some (.int (x + Int32.ofInt n)) :: r) (rest) (w)) : tk_T y cc nL rt hh d kc ks ro cells slots Q (pc) (a0 :: a1 :: a2 :: a3 :: a4 :: a5 :: a6 :: some (.int x) :: r) (rest) (w) := tk_iinc_g (lv := a0 :: a1 :: a2 :: a3 :: a4 :: a5 :: a6 :: some (.int x) :: r) (i := 7) hd rfl hp hn kk
theorem tk_istore8 {a0 a1 a2 a3 a4 a5 a6 a7 b0 : Option Value} {r : List (Option Value)} {x : Int32} (hd : decode cc pc = .ok (.istore 8, 2)) (hp : tk_p1 a7 = true) (hn : 8 < nL) (kk : tk_T y cc nL rt hh d kc ks ro cells slots Q (pc + 2) (a0 :: a1 :: a2 :: a3 :: a4 :: a5 :: a6 :: a7 :: some (.int x) :: r) (rest) (w)) : tk_T y cc nL rt hh d kc ks ro cells slots Q (pc) (a0 :: a1 :: a2 :: a3 :: a4 :: a5 :: a6 :: a7 :: b0 :: r) (.int x :: rest) (w) := tk_istore_g (lv := a0 :: a1 :: a2 :: a3 :: a4 :: a5 :: a6 :: a7 :: b0 :: r) (i := 8) hd hp hn kk
theorem tk_lstore8 {a0 a1 a2 a3 a4 a5 a6 a7 b0 b1 : Option Value} {r : List (Option Value)} {x : Int64} (hd : decode cc pc = .ok (.lstore 8, 2)) (hp : tk_p1 a7 = true) (hn : 8 + 1 < nL) (kk : tk_T y cc nL rt hh d kc ks ro cells slots Q (pc + 2) (a0 :: a1 :: a2 :: a3 :: a4 :: a5 :: a6 :: a7 :: some (.long x) :: none :: r) (rest) (w)) : tk_T y cc nL rt hh d kc ks ro cells slots Q (pc) (a0 :: a1 :: a2 :: a3 :: a4 :: a5 :: a6 :: a7 :: b0 :: b1 :: r) (.long x :: rest) (w) := tk_lstore_g (lv := a0 :: a1 :: a2 :: a3 :: a4 :: a5 :: a6 :: a7 :: b0 :: b1 :: r) (i := 8) hd hp hn kk
theorem tk_astore8 {a0 a1 a2 a3 a4 a5 a6 a7 b0 : Option Value} {r : List (Option Value)} {x : Nat} (hd : decode cc pc = .ok (.astore 8, 2)) (hp : tk_p1 a7 = true) (hn : 8 < nL) (kk : tk_T y cc nL rt hh d kc ks ro cells slots Q (pc + 2) (a0 :: a1 :: a2 :: a3 :: a4 :: a5 :: a6 :: a7 :: some (.ref x) :: r) (rest) (w)) : tk_T y cc nL rt hh d kc ks ro cells slots Q (pc) (a0 :: a1 :: a2 :: a3 :: a4 :: a5 :: a6 :: a7 :: b0 :: r) (.ref x :: rest) (w) := tk_astore_g (lv := a0 :: a1 :: a2 :: a3 :: a4 :: a5 :: a6 :: a7 :: b0 :: r) (i := 8) hd hp hn kk
theorem tk_iinc8 {a0 a1 a2 a3 a4 a5 a6 a7 b0 : Option Value} {r : List (Option Value)} {n : Int} {x : Int32} (hd : decode cc pc = .ok (.iinc 8 n, 3)) (hp : tk_p1 a7 = true) (hn : 8 < nL) (kk : tk_T y cc nL rt hh d kc ks ro cells slots Q (pc + 3) (a0 :: a1 :: a2 :: a3 :: a4 :: a5 :: a6 :: a7 :: some (.int (x + Int32.ofInt n)) :: r) (rest) (w)) : tk_T y cc nL rt hh d kc ks ro cells slots Q (pc) (a0 :: a1 :: a2 :: a3 :: a4 :: a5 :: a6 :: a7 :: some (.int x) :: r) (rest) (w) := tk_iinc_g (lv := a0 :: a1 :: a2 :: a3 :: a4 :: a5 :: a6 :: a7 :: some (.int x) :: r) (i := 8) hd rfl hp hn kk
theorem tk_istore9 {a0 a1 a2 a3 a4 a5 a6 a7 a8 b0 : Option Value} {r : List (Option Value)} {x : Int32} (hd : decode cc pc = .ok (.istore 9, 2)) (hp : tk_p1 a8 = true) (hn : 9 < nL) (kk : tk_T y cc nL rt hh d kc ks ro cells slots Q (pc + 2) (a0 :: a1 :: a2 :: a3 :: a4 :: a5 :: a6 :: a7 :: a8 :: some (.int x) :: r) (rest) (w)) : tk_T y cc nL rt hh d kc ks ro cells slots Q (pc) (a0 :: a1 :: a2 :: a3 :: a4 :: a5 :: a6 :: a7 :: a8 :: b0 :: r) (.int x :: rest) (w) := tk_istore_g (lv := a0 :: a1 :: a2 :: a3 :: a4 :: a5 :: a6 :: a7 :: a8 :: b0 :: r) (i := 9) hd hp hn kk
theorem tk_lstore9 {a0 a1 a2 a3 a4 a5 a6 a7 a8 b0 b1 : Option Value} {r : List (Option Value)} {x : Int64} (hd : decode cc pc = .ok (.lstore 9, 2)) (hp : tk_p1 a8 = true) (hn : 9 + 1 < nL) (kk : tk_T y cc nL rt hh d kc ks ro cells slots Q (pc + 2) (a0 :: a1 :: a2 :: a3 :: a4 :: a5 :: a6 :: a7 :: a8 :: some (.long x) :: none :: r) (rest) (w)) : tk_T y cc nL rt hh d kc ks ro cells slots Q (pc) (a0 :: a1 :: a2 :: a3 :: a4 :: a5 :: a6 :: a7 :: a8 :: b0 :: b1 :: r) (.long x :: rest) (w) := tk_lstore_g (lv := a0 :: a1 :: a2 :: a3 :: a4 :: a5 :: a6 :: a7 :: a8 :: b0 :: b1 :: r) (i := 9) hd hp hn kk
theorem tk_astore9 {a0 a1 a2 a3 a4 a5 a6 a7 a8 b0 : Option Value} {r : List (Option Value)} {x : Nat} (hd : decode cc pc = .ok (.astore 9, 2)) (hp : tk_p1 a8 = true) (hn : 9 < nL) (kk : tk_T y cc nL rt hh d kc ks ro cells slots Q (pc + 2) (a0 :: a1 :: a2 :: a3 :: a4 :: a5 :: a6 :: a7 :: a8 :: some (.ref x) :: r) (rest) (w)) : tk_T y cc nL rt hh d kc ks ro cells slots Q (pc) (a0 :: a1 :: a2 :: a3 :: a4 :: a5 :: a6 :: a7 :: a8 :: b0 :: r) (.ref x :: rest) (w) := tk_astore_g (lv := a0 :: a1 :: a2 :: a3 :: a4 :: a5 :: a6 :: a7 :: a8 :: b0 :: r) (i := 9) hd hp hn kk
theorem tk_iinc9 {a0 a1 a2 a3 a4 a5 a6 a7 a8 b0 : Option Value} {r : List (Option Value)} {n : Int} {x : Int32} (hd : decode cc pc = .ok (.iinc 9 n, 3)) (hp : tk_p1 a8 = true) (hn : 9 < nL) (kk : tk_T y cc nL rt hh d kc ks ro cells slots Q (pc + 3) (a0 :: a1 :: a2 :: a3 :: a4 :: a5 :: a6 :: a7 :: a8 :: some (.int (x + Int32.ofInt n)) :: r) (rest) (w)) : tk_T y cc nL rt hh d kc ks ro cells slots Q (pc) (a0 :: a1 :: a2 :: a3 :: a4 :: a5 :: a6 :: a7 :: a8 :: some (.int x) :: r) (rest) (w) := tk_iinc_g (lv := a0 :: a1 :: a2 :: a3 :: a4 :: a5 :: a6 :: a7 :: a8 :: some (.int x) :: r) (i := 9) hd rfl hp hn kk
theorem tk_istore10 {a0 a1 a2 a3 a4 a5 a6 a7 a8 a9 b0 : Option Value} {r : List (Option Value)} {x : Int32} (hd : decode cc pc = .ok (.istore 10, 2)) (hp : tk_p1 a9 = true) (hn : 10 < nL) (kk : tk_T y cc nL rt hh d kc ks ro cells slots Q (pc + 2) (a0 :: a1 :: a2 :: a3 :: a4 :: a5 :: a6 :: a7 :: a8 :: a9 :: some (.int x) :: r) (rest) (w)) : tk_T y cc nL rt hh d kc ks ro cells slots Q (pc) (a0 :: a1 :: a2 :: a3 :: a4 :: a5 :: a6 :: a7 :: a8 :: a9 :: b0 :: r) (.int x :: rest) (w) := tk_istore_g (lv := a0 :: a1 :: a2 :: a3 :: a4 :: a5 :: a6 :: a7 :: a8 :: a9 :: b0 :: r) (i := 10) hd hp hn kk
theorem tk_lstore10 {a0 a1 a2 a3 a4 a5 a6 a7 a8 a9 b0 b1 : Option Value} {r : List (Option Value)} {x : Int64} (hd : decode cc pc = .ok (.lstore 10, 2)) (hp : tk_p1 a9 = true) (hn : 10 + 1 < nL) (kk : tk_T y cc nL rt hh d kc ks ro cells slots Q (pc + 2) (a0 :: a1 :: a2 :: a3 :: a4 :: a5 :: a6 :: a7 :: a8 :: a9 :: some (.long x) :: none :: r) (rest) (w)) : tk_T y cc nL rt hh d kc ks ro cells slots Q (pc) (a0 :: a1 :: a2 :: a3 :: a4 :: a5 :: a6 :: a7 :: a8 :: a9 :: b0 :: b1 :: r) (.long x :: rest) (w) := tk_lstore_g (lv := a0 :: a1 :: a2 :: a3 :: a4 :: a5 :: a6 :: a7 :: a8 :: a9 :: b0 :: b1 :: r) (i := 10) hd hp hn kk
theorem tk_astore10 {a0 a1 a2 a3 a4 a5 a6 a7 a8 a9 b0 : Option Value} {r : List (Option Value)} {x : Nat} (hd : decode cc pc = .ok (.astore 10, 2)) (hp : tk_p1 a9 = true) (hn : 10 < nL) (kk : tk_T y cc nL rt hh d kc ks ro cells slots Q (pc + 2) (a0 :: a1 :: a2 :: a3 :: a4 :: a5 :: a6 :: a7 :: a8 :: a9 :: some (.ref x) :: r) (rest) (w)) : tk_T y cc nL rt hh d kc ks ro cells slots Q (pc) (a0 :: a1 :: a2 :: a3 :: a4 :: a5 :: a6 :: a7 :: a8 :: a9 :: b0 :: r) (.ref x :: rest) (w) := tk_astore_g (lv := a0 :: a1 :: a2 :: a3 :: a4 :: a5 :: a6 :: a7 :: a8 :: a9 :: b0 :: r) (i := 10) hd hp hn kk
theorem tk_iinc10 {a0 a1 a2 a3 a4 a5 a6 a7 a8 a9 b0 : Option Value} {r : List (Option Value)} {n : Int} {x : Int32} (hd : decode cc pc = .ok (.iinc 10 n, 3)) (hp : tk_p1 a9 = true) (hn : 10 < nL) (kk : tk_T y cc nL rt hh d kc ks ro cells slots Q (pc + 3) (a0 :: a1 :: a2 :: a3 :: a4 :: a5 :: a6 :: a7 :: a8 :: a9 :: some (.int (x + Int32.ofInt n)) :: r) (rest) (w)) : tk_T y cc nL rt hh d kc ks ro cells slots Q (pc) (a0 :: a1 :: a2 :: a3 :: a4 :: a5 :: a6 :: a7 :: a8 :: a9 :: some (.int x) :: r) (rest) (w) := tk_iinc_g (lv := a0 :: a1 :: a2 :: a3 :: a4 :: a5 :: a6 :: a7 :: a8 :: a9 :: some (.int x) :: r) (i := 10) hd rfl hp hn kk
theorem tk_istore11 {a0 a1 a2 a3 a4 a5 a6 a7 a8 a9 a10 b0 : Option Value} {r : List (Option Value)} {x : Int32} (hd : decode cc pc = .ok (.istore 11, 2)) (hp : tk_p1 a10 = true) (hn : 11 < nL) (kk : tk_T y cc nL rt hh d kc ks ro cells slots Q (pc + 2) (a0 :: a1 :: a2 :: a3 :: a4 :: a5 :: a6 :: a7 :: a8 :: a9 :: a10 :: some (.int x) :: r) (rest) (w)) : tk_T y cc nL rt hh d kc ks ro cells slots Q (pc) (a0 :: a1 :: a2 :: a3 :: a4 :: a5 :: a6 :: a7 :: a8 :: a9 :: a10 :: b0 :: r) (.int x :: rest) (w) := tk_istore_g (lv := a0 :: a1 :: a2 :: a3 :: a4 :: a5 :: a6 :: a7 :: a8 :: a9 :: a10 :: b0 :: r) (i := 11) hd hp hn kk
theorem tk_lstore11 {a0 a1 a2 a3 a4 a5 a6 a7 a8 a9 a10 b0 b1 : Option Value} {r : List (Option Value)} {x : Int64} (hd : decode cc pc = .ok (.lstore 11, 2)) (hp : tk_p1 a10 = true) (hn : 11 + 1 < nL) (kk : tk_T y cc nL rt hh d kc ks ro cells slots Q (pc + 2) (a0 :: a1 :: a2 :: a3 :: a4 :: a5 :: a6 :: a7 :: a8 :: a9 :: a10 :: some (.long x) :: none :: r) (rest) (w)) : tk_T y cc nL rt hh d kc ks ro cells slots Q (pc) (a0 :: a1 :: a2 :: a3 :: a4 :: a5 :: a6 :: a7 :: a8 :: a9 :: a10 :: b0 :: b1 :: r) (.long x :: rest) (w) := tk_lstore_g (lv := a0 :: a1 :: a2 :: a3 :: a4 :: a5 :: a6 :: a7 :: a8 :: a9 :: a10 :: b0 :: b1 :: r) (i := 11) hd hp hn kk
theorem tk_astore11 {a0 a1 a2 a3 a4 a5 a6 a7 a8 a9 a10 b0 : Option Value} {r : List (Option Value)} {x : Nat} (hd : decode cc pc = .ok (.astore 11, 2)) (hp : tk_p1 a10 = true) (hn : 11 < nL) (kk : tk_T y cc nL rt hh d kc ks ro cells slots Q (pc + 2) (a0 :: a1 :: a2 :: a3 :: a4 :: a5 :: a6 :: a7 :: a8 :: a9 :: a10 :: some (.ref x) :: r) (rest) (w)) : tk_T y cc nL rt hh d kc ks ro cells slots Q (pc) (a0 :: a1 :: a2 :: a3 :: a4 :: a5 :: a6 :: a7 :: a8 :: a9 :: a10 :: b0 :: r) (.ref x :: rest) (w) := tk_astore_g (lv := a0 :: a1 :: a2 :: a3 :: a4 :: a5 :: a6 :: a7 :: a8 :: a9 :: a10 :: b0 :: r) (i := 11) hd hp hn kk
theorem tk_iinc11 {a0 a1 a2 a3 a4 a5 a6 a7 a8 a9 a10 b0 : Option Value} {r : List (Option Value)} {n : Int} {x : Int32} (hd : decode cc pc = .ok (.iinc 11 n, 3)) (hp : tk_p1 a10 = true) (hn : 11 < nL) (kk : tk_T y cc nL rt hh d kc ks ro cells slots Q (pc + 3) (a0 :: a1 :: a2 :: a3 :: a4 :: a5 :: a6 :: a7 :: a8 :: a9 :: a10 :: some (.int (x + Int32.ofInt n)) :: r) (rest) (w)) : tk_T y cc nL rt hh d kc ks ro cells slots Q (pc) (a0 :: a1 :: a2 :: a3 :: a4 :: a5 :: a6 :: a7 :: a8 :: a9 :: a10 :: some (.int x) :: r) (rest) (w) := tk_iinc_g (lv := a0 :: a1 :: a2 :: a3 :: a4 :: a5 :: a6 :: a7 :: a8 :: a9 :: a10 :: some (.int x) :: r) (i := 11) hd rfl hp hn kk
theorem tk_istore12 {a0 a1 a2 a3 a4 a5 a6 a7 a8 a9 a10 a11 b0 : Option Value} {r : List (Option Value)} {x : Int32} (hd : decode cc pc = .ok (.istore 12, 2)) (hp : tk_p1 a11 = true) (hn : 12 < nL) (kk : tk_T y cc nL rt hh d kc ks ro cells slots Q (pc + 2) (a0 :: a1 :: a2 :: a3 :: a4 :: a5 :: a6 :: a7 :: a8 :: a9 :: a10 :: a11 :: some (.int x) :: r) (rest) (w)) : tk_T y cc nL rt hh d kc ks ro cells slots Q (pc) (a0 :: a1 :: a2 :: a3 :: a4 :: a5 :: a6 :: a7 :: a8 :: a9 :: a10 :: a11 :: b0 :: r) (.int x :: rest) (w) := tk_istore_g (lv := a0 :: a1 :: a2 :: a3 :: a4 :: a5 :: a6 :: a7 :: a8 :: a9 :: a10 :: a11 :: b0 :: r) (i := 12) hd hp hn kk
theorem tk_lstore12 {a0 a1 a2 a3 a4 a5 a6 a7 a8 a9 a10 a11 b0 b1 : Option Value} {r : List (Option Value)} {x : Int64} (hd : decode cc pc = .ok (.lstore 12, 2)) (hp : tk_p1 a11 = true) (hn : 12 + 1 < nL) (kk : tk_T y cc nL rt hh d kc ks ro cells slots Q (pc + 2) (a0 :: a1 :: a2 :: a3 :: a4 :: a5 :: a6 :: a7 :: a8 :: a9 :: a10 :: a11 :: some (.long x) :: none :: r) (rest) (w)) : tk_T y cc nL rt hh d kc ks ro cells slots Q (pc) (a0 :: a1 :: a2 :: a3 :: a4 :: a5 :: a6 :: a7 :: a8 :: a9 :: a10 :: a11 :: b0 :: b1 :: r) (.long x :: rest) (w) := tk_lstore_g (lv := a0 :: a1 :: a2 :: a3 :: a4 :: a5 :: a6 :: a7 :: a8 :: a9 :: a10 :: a11 :: b0 :: b1 :: r) (i := 12) hd hp hn kk
theorem tk_astore12 {a0 a1 a2 a3 a4 a5 a6 a7 a8 a9 a10 a11 b0 : Option Value} {r : List (Option Value)} {x : Nat} (hd : decode cc pc = .ok (.astore 12, 2)) (hp : tk_p1 a11 = true) (hn : 12 < nL) (kk : tk_T y cc nL rt hh d kc ks ro cells slots Q (pc + 2) (a0 :: a1 :: a2 :: a3 :: a4 :: a5 :: a6 :: a7 :: a8 :: a9 :: a10 :: a11 :: some (.ref x) :: r) (rest) (w)) : tk_T y cc nL rt hh d kc ks ro cells slots Q (pc) (a0 :: a1 :: a2 :: a3 :: a4 :: a5 :: a6 :: a7 :: a8 :: a9 :: a10 :: a11 :: b0 :: r) (.ref x :: rest) (w) := tk_astore_g (lv := a0 :: a1 :: a2 :: a3 :: a4 :: a5 :: a6 :: a7 :: a8 :: a9 :: a10 :: a11 :: b0 :: r) (i := 12) hd hp hn kk
theorem tk_iinc12 {a0 a1 a2 a3 a4 a5 a6 a7 a8 a9 a10 a11 b0 : Option Value} {r : List (Option Value)} {n : Int} {x : Int32} (hd : decode cc pc = .ok (.iinc 12 n, 3)) (hp : tk_p1 a11 = true) (hn : 12 < nL) (kk : tk_T y cc nL rt hh d kc ks ro cells slots Q (pc + 3) (a0 :: a1 :: a2 :: a3 :: a4 :: a5 :: a6 :: a7 :: a8 :: a9 :: a10 :: a11 :: some (.int (x + Int32.ofInt n)) :: r) (rest) (w)) : tk_T y cc nL rt hh d kc ks ro cells slots Q (pc) (a0 :: a1 :: a2 :: a3 :: a4 :: a5 :: a6 :: a7 :: a8 :: a9 :: a10 :: a11 :: some (.int x) :: r) (rest) (w) := tk_iinc_g (lv := a0 :: a1 :: a2 :: a3 :: a4 :: a5 :: a6 :: a7 :: a8 :: a9 :: a10 :: a11 :: some (.int x) :: r) (i := 12) hd rfl hp hn kk
theorem tk_istore13 {a0 a1 a2 a3 a4 a5 a6 a7 a8 a9 a10 a11 a12 b0 : Option Value} {r : List (Option Value)} {x : Int32} (hd : decode cc pc = .ok (.istore 13, 2)) (hp : tk_p1 a12 = true) (hn : 13 < nL) (kk : tk_T y cc nL rt hh d kc ks ro cells slots Q (pc + 2) (a0 :: a1 :: a2 :: a3 :: a4 :: a5 :: a6 :: a7 :: a8 :: a9 :: a10 :: a11 :: a12 :: some (.int x) :: r) (rest) (w)) : tk_T y cc nL rt hh d kc ks ro cells slots Q (pc) (a0 :: a1 :: a2 :: a3 :: a4 :: a5 :: a6 :: a7 :: a8 :: a9 :: a10 :: a11 :: a12 :: b0 :: r) (.int x :: rest) (w) := tk_istore_g (lv := a0 :: a1 :: a2 :: a3 :: a4 :: a5 :: a6 :: a7 :: a8 :: a9 :: a10 :: a11 :: a12 :: b0 :: r) (i := 13) hd hp hn kk
theorem tk_lstore13 {a0 a1 a2 a3 a4 a5 a6 a7 a8 a9 a10 a11 a12 b0 b1 : Option Value} {r : List (Option Value)} {x : Int64} (hd : decode cc pc = .ok (.lstore 13, 2)) (hp : tk_p1 a12 = true) (hn : 13 + 1 < nL) (kk : tk_T y cc nL rt hh d kc ks ro cells slots Q (pc + 2) (a0 :: a1 :: a2 :: a3 :: a4 :: a5 :: a6 :: a7 :: a8 :: a9 :: a10 :: a11 :: a12 :: some (.long x) :: none :: r) (rest) (w)) : tk_T y cc nL rt hh d kc ks ro cells slots Q (pc) (a0 :: a1 :: a2 :: a3 :: a4 :: a5 :: a6 :: a7 :: a8 :: a9 :: a10 :: a11 :: a12 :: b0 :: b1 :: r) (.long x :: rest) (w) := tk_lstore_g (lv := a0 :: a1 :: a2 :: a3 :: a4 :: a5 :: a6 :: a7 :: a8 :: a9 :: a10 :: a11 :: a12 :: b0 :: b1 :: r) (i := 13) hd hp hn kk
theorem tk_astore13 {a0 a1 a2 a3 a4 a5 a6 a7 a8 a9 a10 a11 a12 b0 : Option Value} {r : List (Option Value)} {x : Nat} (hd : decode cc pc = .ok (.astore 13, 2)) (hp : tk_p1 a12 = true) (hn : 13 < nL) (kk : tk_T y cc nL rt hh d kc ks ro cells slots Q (pc + 2) (a0 :: a1 :: a2 :: a3 :: a4 :: a5 :: a6 :: a7 :: a8 :: a9 :: a10 :: a11 :: a12 :: some (.ref x) :: r) (rest) (w)) : tk_T y cc nL rt hh d kc ks ro cells slots Q (pc) (a0 :: a1 :: a2 :: a3 :: a4 :: a5 :: a6 :: a7 :: a8 :: a9 :: a10 :: a11 :: a12 :: b0 :: r) (.ref x :: rest) (w) := tk_astore_g (lv := a0 :: a1 :: a2 :: a3 :: a4 :: a5 :: a6 :: a7 :: a8 :: a9 :: a10 :: a11 :: a12 :: b0 :: r) (i := 13) hd hp hn kk
theorem tk_iinc13 {a0 a1 a2 a3 a4 a5 a6 a7 a8 a9 a10 a11 a12 b0 : Option Value} {r : List (Option Value)} {n : Int} {x : Int32} (hd : decode cc pc = .ok (.iinc 13 n, 3)) (hp : tk_p1 a12 = true) (hn : 13 < nL) (kk : tk_T y cc nL rt hh d kc ks ro cells slots Q (pc + 3) (a0 :: a1 :: a2 :: a3 :: a4 :: a5 :: a6 :: a7 :: a8 :: a9 :: a10 :: a11 :: a12 :: some (.int (x + Int32.ofInt n)) :: r) (rest) (w)) : tk_T y cc nL rt hh d kc ks ro cells slots Q (pc) (a0 :: a1 :: a2 :: a3 :: a4 :: a5 :: a6 :: a7 :: a8 :: a9 :: a10 :: a11 :: a12 :: some (.int x) :: r) (rest) (w) := tk_iinc_g (lv := a0 :: a1 :: a2 :: a3 :: a4 :: a5 :: a6 :: a7 :: a8 :: a9 :: a10 :: a11 :: a12 :: some (.int x) :: r) (i := 13) hd rfl hp hn kk
theorem tk_istore14 {a0 a1 a2 a3 a4 a5 a6 a7 a8 a9 a10 a11 a12 a13 b0 : Option Value} {r : List (Option Value)} {x : Int32} (hd : decode cc pc = .ok (.istore 14, 2)) (hp : tk_p1 a13 = true) (hn : 14 < nL) (kk : tk_T y cc nL rt hh d kc ks ro cells slots Q (pc + 2) (a0 :: a1 :: a2 :: a3 :: a4 :: a5 :: a6 :: a7 :: a8 :: a9 :: a10 :: a11 :: a12 :: a13 :: some (.int x) :: r) (rest) (w)) : tk_T y cc nL rt hh d kc ks ro cells slots Q (pc) (a0 :: a1 :: a2 :: a3 :: a4 :: a5 :: a6 :: a7 :: a8 :: a9 :: a10 :: a11 :: a12 :: a13 :: b0 :: r) (.int x :: rest) (w) := tk_istore_g (lv := a0 :: a1 :: a2 :: a3 :: a4 :: a5 :: a6 :: a7 :: a8 :: a9 :: a10 :: a11 :: a12 :: a13 :: b0 :: r) (i := 14) hd hp hn kk
theorem tk_lstore14 {a0 a1 a2 a3 a4 a5 a6 a7 a8 a9 a10 a11 a12 a13 b0 b1 : Option Value} {r : List (Option Value)} {x : Int64} (hd : decode cc pc = .ok (.lstore 14, 2)) (hp : tk_p1 a13 = true) (hn : 14 + 1 < nL) (kk : tk_T y cc nL rt hh d kc ks ro cells slots Q (pc + 2) (a0 :: a1 :: a2 :: a3 :: a4 :: a5 :: a6 :: a7 :: a8 :: a9 :: a10 :: a11 :: a12 :: a13 :: some (.long x) :: none :: r) (rest) (w)) : tk_T y cc nL rt hh d kc ks ro cells slots Q (pc) (a0 :: a1 :: a2 :: a3 :: a4 :: a5 :: a6 :: a7 :: a8 :: a9 :: a10 :: a11 :: a12 :: a13 :: b0 :: b1 :: r) (.long x :: rest) (w) := tk_lstore_g (lv := a0 :: a1 :: a2 :: a3 :: a4 :: a5 :: a6 :: a7 :: a8 :: a9 :: a10 :: a11 :: a12 :: a13 :: b0 :: b1 :: r) (i := 14) hd hp hn kk
theorem tk_astore14 {a0 a1 a2 a3 a4 a5 a6 a7 a8 a9 a10 a11 a12 a13 b0 : Option Value} {r : List (Option Value)} {x : Nat} (hd : decode cc pc = .ok (.astore 14, 2)) (hp : tk_p1 a13 = true) (hn : 14 < nL) (kk : tk_T y cc nL rt hh d kc ks ro cells slots Q (pc + 2) (a0 :: a1 :: a2 :: a3 :: a4 :: a5 :: a6 :: a7 :: a8 :: a9 :: a10 :: a11 :: a12 :: a13 :: some (.ref x) :: r) (rest) (w)) : tk_T y cc nL rt hh d kc ks ro cells slots Q (pc) (a0 :: a1 :: a2 :: a3 :: a4 :: a5 :: a6 :: a7 :: a8 :: a9 :: a10 :: a11 :: a12 :: a13 :: b0 :: r) (.ref x :: rest) (w) := tk_astore_g (lv := a0 :: a1 :: a2 :: a3 :: a4 :: a5 :: a6 :: a7 :: a8 :: a9 :: a10 :: a11 :: a12 :: a13 :: b0 :: r) (i := 14) hd hp hn kk
theorem tk_iinc14 {a0 a1 a2 a3 a4 a5 a6 a7 a8 a9 a10 a11 a12 a13 b0 : Option Value} {r : List (Option Value)} {n : Int} {x : Int32} (hd : decode cc pc = .ok (.iinc 14 n, 3)) (hp : tk_p1 a13 = true) (hn : 14 < nL) (kk : tk_T y cc nL rt hh d kc ks ro cells slots Q (pc + 3) (a0 :: a1 :: a2 :: a3 :: a4 :: a5 :: a6 :: a7 :: a8 :: a9 :: a10 :: a11 :: a12 :: a13 :: some (.int (x + Int32.ofInt n)) :: r) (rest) (w)) : tk_T y cc nL rt hh d kc ks ro cells slots Q (pc) (a0 :: a1 :: a2 :: a3 :: a4 :: a5 :: a6 :: a7 :: a8 :: a9 :: a10 :: a11 :: a12 :: a13 :: some (.int x) :: r) (rest) (w) := tk_iinc_g (lv := a0 :: a1 :: a2 :: a3 :: a4 :: a5 :: a6 :: a7 :: a8 :: a9 :: a10 :: a11 :: a12 :: a13 :: some (.int x) :: r) (i := 14) hd rfl hp hn kk
theorem tk_istore15 {a0 a1 a2 a3 a4 a5 a6 a7 a8 a9 a10 a11 a12 a13 a14 b0 : Option Value} {r : List (Option Value)} {x : Int32} (hd : decode cc pc = .ok (.istore 15, 2)) (hp : tk_p1 a14 = true) (hn : 15 < nL) (kk : tk_T y cc nL rt hh d kc ks ro cells slots Q (pc + 2) (a0 :: a1 :: a2 :: a3 :: a4 :: a5 :: a6 :: a7 :: a8 :: a9 :: a10 :: a11 :: a12 :: a13 :: a14 :: some (.int x) :: r) (rest) (w)) : tk_T y cc nL rt hh d kc ks ro cells slots Q (pc) (a0 :: a1 :: a2 :: a3 :: a4 :: a5 :: a6 :: a7 :: a8 :: a9 :: a10 :: a11 :: a12 :: a13 :: a14 :: b0 :: r) (.int x :: rest) (w) := tk_istore_g (lv := a0 :: a1 :: a2 :: a3 :: a4 :: a5 :: a6 :: a7 :: a8 :: a9 :: a10 :: a11 :: a12 :: a13 :: a14 :: b0 :: r) (i := 15) hd hp hn kk
theorem tk_lstore15 {a0 a1 a2 a3 a4 a5 a6 a7 a8 a9 a10 a11 a12 a13 a14 b0 b1 : Option Value} {r : List (Option Value)} {x : Int64} (hd : decode cc pc = .ok (.lstore 15, 2)) (hp : tk_p1 a14 = true) (hn : 15 + 1 < nL) (kk : tk_T y cc nL rt hh d kc ks ro cells slots Q (pc + 2) (a0 :: a1 :: a2 :: a3 :: a4 :: a5 :: a6 :: a7 :: a8 :: a9 :: a10 :: a11 :: a12 :: a13 :: a14 :: some (.long x) :: none :: r) (rest) (w)) : tk_T y cc nL rt hh d kc ks ro cells slots Q (pc) (a0 :: a1 :: a2 :: a3 :: a4 :: a5 :: a6 :: a7 :: a8 :: a9 :: a10 :: a11 :: a12 :: a13 :: a14 :: b0 :: b1 :: r) (.long x :: rest) (w) := tk_lstore_g (lv := a0 :: a1 :: a2 :: a3 :: a4 :: a5 :: a6 :: a7 :: a8 :: a9 :: a10 :: a11 :: a12 :: a13 :: a14 :: b0 :: b1 :: r) (i := 15) hd hp hn kk
theorem tk_astore15 {a0 a1 a2 a3 a4 a5 a6 a7 a8 a9 a10 a11 a12 a13 a14 b0 : Option Value} {r : List (Option Value)} {x : Nat} (hd : decode cc pc = .ok (.astore 15, 2)) (hp : tk_p1 a14 = true) (hn : 15 < nL) (kk : tk_T y cc nL rt hh d kc ks ro cells slots Q (pc + 2) (a0 :: a1 :: a2 :: a3 :: a4 :: a5 :: a6 :: a7 :: a8 :: a9 :: a10 :: a11 :: a12 :: a13 :: a14 :: some (.ref x) :: r) (rest) (w)) : tk_T y cc nL rt hh d kc ks ro cells slots Q (pc) (a0 :: a1 :: a2 :: a3 :: a4 :: a5 :: a6 :: a7 :: a8 :: a9 :: a10 :: a11 :: a12 :: a13 :: a14 :: b0 :: r) (.ref x :: rest) (w) := tk_astore_g (lv := a0 :: a1 :: a2 :: a3 :: a4 :: a5 :: a6 :: a7 :: a8 :: a9 :: a10 :: a11 :: a12 :: a13 :: a14 :: b0 :: r) (i := 15) hd hp hn kk
theorem tk_iinc15 {a0 a1 a2 a3 a4 a5 a6 a7 a8 a9 a10 a11 a12 a13 a14 b0 : Option Value} {r : List (Option Value)} {n : Int} {x : Int32} (hd : decode cc pc = .ok (.iinc 15 n, 3)) (hp : tk_p1 a14 = true) (hn : 15 < nL) (kk : tk_T y cc nL rt hh d kc ks ro cells slots Q (pc + 3) (a0 :: a1 :: a2 :: a3 :: a4 :: a5 :: a6 :: a7 :: a8 :: a9 :: a10 :: a11 :: a12 :: a13 :: a14 :: some (.int (x + Int32.ofInt n)) :: r) (rest) (w)) : tk_T y cc nL rt hh d kc ks ro cells slots Q (pc) (a0 :: a1 :: a2 :: a3 :: a4 :: a5 :: a6 :: a7 :: a8 :: a9 :: a10 :: a11 :: a12 :: a13 :: a14 :: some (.int x) :: r) (rest) (w) := tk_iinc_g (lv := a0 :: a1 :: a2 :: a3 :: a4 :: a5 :: a6 :: a7 :: a8 :: a9 :: a10 :: a11 :: a12 :: a13 :: a14 :: some (.int x) :: r) (i := 15) hd rfl hp hn kk
theorem tk_if_eq {x : Int32} {off : Int} {tgt : Nat} (hd : decode cc pc = .ok (.ifCond .eq off, 3)) (ht : (pc : Int) + off = (tgt : Int)) (kt : x = 0 → tk_T y cc nL rt hh d kc ks ro cells slots Q (tgt) (lv) (rest) (w)) (kf : ¬ x = 0 → tk_T y cc nL rt hh d kc ks ro cells slots Q (pc + 3) (lv) (rest) (w)) : tk_T y cc nL rt hh d kc ks ro cells slots Q (pc) (lv) (.int x :: rest) (w) := by
  intro p l e s m args below meth c D dA A ad0 n0 I ad H locs ls g1 g2 g3 g4 g5 g6 g7
  exact lv_if_eq I.1 I.2.1 hd ht (fun h => kt h p l e s m args below meth c D dA A ad0 n0 I ad H locs ls g1 g2 g3 g4 g5 g6 g7) (fun h => kf h p l e s m args below meth c D dA A ad0 n0 I ad H locs ls g1 g2 g3 g4 g5 g6 g7)
theorem tk_if_ne {x : Int32} {off : Int} {tgt : Nat} (hd : decode cc pc = .ok (.ifCond .ne off, 3)) (ht : (pc : Int) + off = (tgt : Int)) (kt : ¬ x = 0 → tk_T y cc nL rt hh d kc ks ro cells slots Q (tgt) (lv) (rest) (w)) (kf : x = 0 → tk_T y cc nL rt hh d kc ks ro cells slots Q (pc + 3) (lv) (rest) (w)) : tk_T y cc nL rt hh d kc ks ro cells slots Q (pc) (lv) (.int x :: rest) (w) := by
  intro p l e s m args below meth c D dA A ad0 n0 I ad H locs ls g1 g2 g3 g4 g5 g6 g7
  exact lv_if_ne I.1 I.2.1 hd ht (fun h => kt h p l e s m args below meth c D dA A ad0 n0 I ad H locs ls g1 g2 g3 g4 g5 g6 g7) (fun h => kf h p l e s m args below meth c D dA A ad0 n0 I ad H locs ls g1 g2 g3 g4 g5 g6 g7)
theorem tk_if_lt {x : Int32} {off : Int} {tgt : Nat} (hd : decode cc pc = .ok (.ifCond .lt off, 3)) (ht : (pc : Int) + off = (tgt : Int)) (kt : x < 0 → tk_T y cc nL rt hh d kc ks ro cells slots Q (tgt) (lv) (rest) (w)) (kf : ¬ x < 0 → tk_T y cc nL rt hh d kc ks ro cells slots Q (pc + 3) (lv) (rest) (w)) : tk_T y cc nL rt hh d kc ks ro cells slots Q (pc) (lv) (.int x :: rest) (w) := by
  intro p l e s m args below meth c D dA A ad0 n0 I ad H locs ls g1 g2 g3 g4 g5 g6 g7
  exact lv_if_lt I.1 I.2.1 hd ht (fun h => kt h p l e s m args below meth c D dA A ad0 n0 I ad H locs ls g1 g2 g3 g4 g5 g6 g7) (fun h => kf h p l e s m args below meth c D dA A ad0 n0 I ad H locs ls g1 g2 g3 g4 g5 g6 g7)
theorem tk_if_ge {x : Int32} {off : Int} {tgt : Nat} (hd : decode cc pc = .ok (.ifCond .ge off, 3)) (ht : (pc : Int) + off = (tgt : Int)) (kt : 0 ≤ x → tk_T y cc nL rt hh d kc ks ro cells slots Q (tgt) (lv) (rest) (w)) (kf : ¬ 0 ≤ x → tk_T y cc nL rt hh d kc ks ro cells slots Q (pc + 3) (lv) (rest) (w)) : tk_T y cc nL rt hh d kc ks ro cells slots Q (pc) (lv) (.int x :: rest) (w) := by
  intro p l e s m args below meth c D dA A ad0 n0 I ad H locs ls g1 g2 g3 g4 g5 g6 g7
  exact lv_if_ge I.1 I.2.1 hd ht (fun h => kt h p l e s m args below meth c D dA A ad0 n0 I ad H locs ls g1 g2 g3 g4 g5 g6 g7) (fun h => kf h p l e s m args below meth c D dA A ad0 n0 I ad H locs ls g1 g2 g3 g4 g5 g6 g7)
theorem tk_if_gt {x : Int32} {off : Int} {tgt : Nat} (hd : decode cc pc = .ok (.ifCond .gt off, 3)) (ht : (pc : Int) + off = (tgt : Int)) (kt : 0 < x → tk_T y cc nL rt hh d kc ks ro cells slots Q (tgt) (lv) (rest) (w)) (kf : ¬ 0 < x → tk_T y cc nL rt hh d kc ks ro cells slots Q (pc + 3) (lv) (rest) (w)) : tk_T y cc nL rt hh d kc ks ro cells slots Q (pc) (lv) (.int x :: rest) (w) := by
  intro p l e s m args below meth c D dA A ad0 n0 I ad H locs ls g1 g2 g3 g4 g5 g6 g7
  exact lv_if_gt I.1 I.2.1 hd ht (fun h => kt h p l e s m args below meth c D dA A ad0 n0 I ad H locs ls g1 g2 g3 g4 g5 g6 g7) (fun h => kf h p l e s m args below meth c D dA A ad0 n0 I ad H locs ls g1 g2 g3 g4 g5 g6 g7)
theorem tk_if_le {x : Int32} {off : Int} {tgt : Nat} (hd : decode cc pc = .ok (.ifCond .le off, 3)) (ht : (pc : Int) + off = (tgt : Int)) (kt : x ≤ 0 → tk_T y cc nL rt hh d kc ks ro cells slots Q (tgt) (lv) (rest) (w)) (kf : ¬ x ≤ 0 → tk_T y cc nL rt hh d kc ks ro cells slots Q (pc + 3) (lv) (rest) (w)) : tk_T y cc nL rt hh d kc ks ro cells slots Q (pc) (lv) (.int x :: rest) (w) := by
  intro p l e s m args below meth c D dA A ad0 n0 I ad H locs ls g1 g2 g3 g4 g5 g6 g7
  exact lv_if_le I.1 I.2.1 hd ht (fun h => kt h p l e s m args below meth c D dA A ad0 n0 I ad H locs ls g1 g2 g3 g4 g5 g6 g7) (fun h => kf h p l e s m args below meth c D dA A ad0 n0 I ad H locs ls g1 g2 g3 g4 g5 g6 g7)
theorem tk_icmp_eq {x z : Int32} {off : Int} {tgt : Nat} (hd : decode cc pc = .ok (.if_icmp .eq off, 3)) (ht : (pc : Int) + off = (tgt : Int)) (kt : x = z → tk_T y cc nL rt hh d kc ks ro cells slots Q (tgt) (lv) (rest) (w)) (kf : ¬ x = z → tk_T y cc nL rt hh d kc ks ro cells slots Q (pc + 3) (lv) (rest) (w)) : tk_T y cc nL rt hh d kc ks ro cells slots Q (pc) (lv) (.int z :: .int x :: rest) (w) := by
  intro p l e s m args below meth c D dA A ad0 n0 I ad H locs ls g1 g2 g3 g4 g5 g6 g7
  exact lv_icmp_eq I.1 I.2.1 hd ht (fun h => kt h p l e s m args below meth c D dA A ad0 n0 I ad H locs ls g1 g2 g3 g4 g5 g6 g7) (fun h => kf h p l e s m args below meth c D dA A ad0 n0 I ad H locs ls g1 g2 g3 g4 g5 g6 g7)
theorem tk_icmp_ne {x z : Int32} {off : Int} {tgt : Nat} (hd : decode cc pc = .ok (.if_icmp .ne off, 3)) (ht : (pc : Int) + off = (tgt : Int)) (kt : ¬ x = z → tk_T y cc nL rt hh d kc ks ro cells slots Q (tgt) (lv) (rest) (w)) (kf : x = z → tk_T y cc nL rt hh d kc ks ro cells slots Q (pc + 3) (lv) (rest) (w)) : tk_T y cc nL rt hh d kc ks ro cells slots Q (pc) (lv) (.int z :: .int x :: rest) (w) := by
  intro p l e s m args below meth c D dA A ad0 n0 I ad H locs ls g1 g2 g3 g4 g5 g6 g7
  exact lv_icmp_ne I.1 I.2.1 hd ht (fun h => kt h p l e s m args below meth c D dA A ad0 n0 I ad H locs ls g1 g2 g3 g4 g5 g6 g7) (fun h => kf h p l e s m args below meth c D dA A ad0 n0 I ad H locs ls g1 g2 g3 g4 g5 g6 g7)
theorem tk_icmp_lt {x z : Int32} {off : Int} {tgt : Nat} (hd : decode cc pc = .ok (.if_icmp .lt off, 3)) (ht : (pc : Int) + off = (tgt : Int)) (kt : x < z → tk_T y cc nL rt hh d kc ks ro cells slots Q (tgt) (lv) (rest) (w)) (kf : ¬ x < z → tk_T y cc nL rt hh d kc ks ro cells slots Q (pc + 3) (lv) (rest) (w)) : tk_T y cc nL rt hh d kc ks ro cells slots Q (pc) (lv) (.int z :: .int x :: rest) (w) := by
  intro p l e s m args below meth c D dA A ad0 n0 I ad H locs ls g1 g2 g3 g4 g5 g6 g7
  exact lv_icmp_lt I.1 I.2.1 hd ht (fun h => kt h p l e s m args below meth c D dA A ad0 n0 I ad H locs ls g1 g2 g3 g4 g5 g6 g7) (fun h => kf h p l e s m args below meth c D dA A ad0 n0 I ad H locs ls g1 g2 g3 g4 g5 g6 g7)
theorem tk_icmp_ge {x z : Int32} {off : Int} {tgt : Nat} (hd : decode cc pc = .ok (.if_icmp .ge off, 3)) (ht : (pc : Int) + off = (tgt : Int)) (kt : z ≤ x → tk_T y cc nL rt hh d kc ks ro cells slots Q (tgt) (lv) (rest) (w)) (kf : ¬ z ≤ x → tk_T y cc nL rt hh d kc ks ro cells slots Q (pc + 3) (lv) (rest) (w)) : tk_T y cc nL rt hh d kc ks ro cells slots Q (pc) (lv) (.int z :: .int x :: rest) (w) := by
  intro p l e s m args below meth c D dA A ad0 n0 I ad H locs ls g1 g2 g3 g4 g5 g6 g7
  exact lv_icmp_ge I.1 I.2.1 hd ht (fun h => kt h p l e s m args below meth c D dA A ad0 n0 I ad H locs ls g1 g2 g3 g4 g5 g6 g7) (fun h => kf h p l e s m args below meth c D dA A ad0 n0 I ad H locs ls g1 g2 g3 g4 g5 g6 g7)
theorem tk_icmp_gt {x z : Int32} {off : Int} {tgt : Nat} (hd : decode cc pc = .ok (.if_icmp .gt off, 3)) (ht : (pc : Int) + off = (tgt : Int)) (kt : z < x → tk_T y cc nL rt hh d kc ks ro cells slots Q (tgt) (lv) (rest) (w)) (kf : ¬ z < x → tk_T y cc nL rt hh d kc ks ro cells slots Q (pc + 3) (lv) (rest) (w)) : tk_T y cc nL rt hh d kc ks ro cells slots Q (pc) (lv) (.int z :: .int x :: rest) (w) := by
  intro p l e s m args below meth c D dA A ad0 n0 I ad H locs ls g1 g2 g3 g4 g5 g6 g7
  exact lv_icmp_gt I.1 I.2.1 hd ht (fun h => kt h p l e s m args below meth c D dA A ad0 n0 I ad H locs ls g1 g2 g3 g4 g5 g6 g7) (fun h => kf h p l e s m args below meth c D dA A ad0 n0 I ad H locs ls g1 g2 g3 g4 g5 g6 g7)
theorem tk_icmp_le {x z : Int32} {off : Int} {tgt : Nat} (hd : decode cc pc = .ok (.if_icmp .le off, 3)) (ht : (pc : Int) + off = (tgt : Int)) (kt : x ≤ z → tk_T y cc nL rt hh d kc ks ro cells slots Q (tgt) (lv) (rest) (w)) (kf : ¬ x ≤ z → tk_T y cc nL rt hh d kc ks ro cells slots Q (pc + 3) (lv) (rest) (w)) : tk_T y cc nL rt hh d kc ks ro cells slots Q (pc) (lv) (.int z :: .int x :: rest) (w) := by
  intro p l e s m args below meth c D dA A ad0 n0 I ad H locs ls g1 g2 g3 g4 g5 g6 g7
  exact lv_icmp_le I.1 I.2.1 hd ht (fun h => kt h p l e s m args below meth c D dA A ad0 n0 I ad H locs ls g1 g2 g3 g4 g5 g6 g7) (fun h => kf h p l e s m args below meth c D dA A ad0 n0 I ad H locs ls g1 g2 g3 g4 g5 g6 g7)
theorem tk_goto {off : Int} {tgt : Nat} (hd : decode cc pc = .ok (.goto off, 3)) (ht : (pc : Int) + off = (tgt : Int)) (k : tk_T y cc nL rt hh d kc ks ro cells slots Q (tgt) (lv) (rest) (w)) : tk_T y cc nL rt hh d kc ks ro cells slots Q (pc) (lv) (rest) (w) := by
  intro p l e s m args below meth c D dA A ad0 n0 I ad H locs ls g1 g2 g3 g4 g5 g6 g7
  exact lv_goto I.1 I.2.1 hd ht (k p l e s m args below meth c D dA A ad0 n0 I ad H locs ls g1 g2 g3 g4 g5 g6 g7)
theorem tk_tabIn {dflt lo hi : Int} {offs : Array Int} {len : Nat} {x : Int32} {off : Int} {tgt : Nat} (hd : decode cc pc = .ok (.tableswitch dflt lo hi offs, len)) (h1 : ¬ x.toInt < lo) (h2 : ¬ hi < x.toInt) (ho : offs[(x.toInt - lo).toNat]? = some off) (ht : (pc : Int) + off = (tgt : Int)) (k : tk_T y cc nL rt hh d kc ks ro cells slots Q (tgt) (lv) (rest) (w)) : tk_T y cc nL rt hh d kc ks ro cells slots Q (pc) (lv) (.int x :: rest) (w) := by
  intro p l e s m args below meth c D dA A ad0 n0 I ad H locs ls g1 g2 g3 g4 g5 g6 g7
  exact lv_tableIn I.1 I.2.1 hd h1 h2 ho ht (k p l e s m args below meth c D dA A ad0 n0 I ad H locs ls g1 g2 g3 g4 g5 g6 g7)
theorem tk_tabOut {dflt lo hi : Int} {offs : Array Int} {len : Nat} {x : Int32} {tgt : Nat} (hd : decode cc pc = .ok (.tableswitch dflt lo hi offs, len)) (h : x.toInt < lo ∨ hi < x.toInt) (ht : (pc : Int) + dflt = (tgt : Int)) (k : tk_T y cc nL rt hh d kc ks ro cells slots Q (tgt) (lv) (rest) (w)) : tk_T y cc nL rt hh d kc ks ro cells slots Q (pc) (lv) (.int x :: rest) (w) := by
  intro p l e s m args below meth c D dA A ad0 n0 I ad H locs ls g1 g2 g3 g4 g5 g6 g7
  exact lv_tableOut I.1 I.2.1 hd h ht (k p l e s m args below meth c D dA A ad0 n0 I ad H locs ls g1 g2 g3 g4 g5 g6 g7)
theorem tk_eq {pc' : Nat} {lv' : List (Option Value)} {st st' : List Value} {w' : tk_W} (hp : pc = pc') (hl : lv = lv') (hs : st = st') (hw : w = w') (k : tk_T y cc nL rt hh d kc ks ro cells slots Q (pc') (lv') (st') (w')) : tk_T y cc nL rt hh d kc ks ro cells slots Q (pc) (lv) (st) (w) := by
  subst hp; subst hl; subst hs; subst hw; exact k
theorem tk_mono {Q' : tk_R → tk_W → Prop} {st : List Value} (h : ∀ r x, Q' r x → Q r x) (k : tk_T y cc nL rt hh d kc ks ro cells slots Q' pc lv st w) : tk_T y cc nL rt hh d kc ks ro cells slots Q (pc) (lv) (st) (w) := by
  intro p l e s m args below meth c D dA A ad0 n0 I ad H locs ls g1 g2 g3 g4 g5 g6 g7
  intro T hT X
  obtain ⟨t, a1, o, b1, b2, b3, b4, r, ad', w', c1, c2⟩ := k p l e s m args below meth c D dA A ad0 n0 I ad H locs ls g1 g2 g3 g4 g5 g6 g7 T hT X
  exact ⟨t, a1, o, b1, b2, b3, b4, r, ad', w', h _ _ c1, c2⟩
theorem tk_widen {st : List Value} {c' s' : Nat} (h1 : cells ≤ c') (h2 : slots ≤ s') (k : tk_T y cc nL rt hh d kc ks ro c' s' Q pc lv st w) : tk_T y cc nL rt hh d kc ks ro cells slots Q (pc) (lv) (st) (w) := by
  intro p l e s m args below meth c D dA A ad0 n0 I ad H locs ls g1 g2 g3 g4 g5 g6 g7
  exact W.widen h1 h2 (k p l e s m args below meth c D dA A ad0 n0 I ad H locs ls g1 g2 g3 g4 g5 g6 g7)
theorem tk_less {st : List Value} {lv' : List (Option Value)} (h : ∀ (i : Nat) (v : Value), lv'[i]? = some (some v) → lv[i]? = some (some v)) (k : tk_T y cc nL rt hh d kc ks ro cells slots Q (pc) (lv') (st) (w)) : tk_T y cc nL rt hh d kc ks ro cells slots Q (pc) (lv) (st) (w) := by
  intro p l e s m args below meth c D dA A ad0 n0 I ad H locs ls g1 g2 g3 g4 g5 g6 g7
  exact k p l e s m args below meth c D dA A ad0 n0 I ad H locs ls g1 g2 g3 g4 g5 g6 ⟨g7.1, g7.2.1, fun i v hi => g7.2.2 i v (h i v hi)⟩
end TKR
end
section
section TKH
variable {y : MethodName} {cc : ByteArray} {nL : Nat} {rt : Option FieldType} {hh : List (Nat × Nat × Nat × Nat)} {d kc ks : Nat} {ro : Nat → Option (Nat × (Nat → Int32))} {cells slots : Nat} {Q : tk_R → tk_W → Prop} {pc : Nat} {lv : List (Option Value)} {rest : List Value} {w : tk_W}
/-- own's pool entry 'index' is field k of the class ci -/
def tk_F (own : String) (index ci k : Nat) : Prop := ∃ (C : String) (T : u_T) (N : Nat), tk_cl[ci]? = some (C, T, N) ∧ k < N ∧ (∀ x ∈ u_ws C T N, x ∈ tk_tbl) ∧
  (Cond.fieldLink own index (T k).1 (T k).2.1 (T k).2.2.1 ∈ tk_tbl ∨ ∃ host, Cond.fieldLinkNest own index (T k).1 (T k).2.1 (T k).2.2.1 host ∈ tk_tbl)
/-- what a store into field k of the class ci needs: its type; 'fin': final -/
def tk_FP (ci k : Nat) (ty : FieldType) (fin : Bool) : Prop := ∃ (C : String) (T : u_T) (N : Nat) (ty0 : Nat → FieldType), tk_cl[ci]? = some (C, T, N) ∧ (∀ k, k < N → parseFieldDescriptor (T k).2.2.1 = some (ty0 k)) ∧ (∀ a, a < N → ∀ b, b < N → a ≠ b → (T a).2.1 ≠ (T b).2.1) ∧ (T k).2.2.2 = fin ∧ parseFieldDescriptor (T k).2.2.1 = some ty ∧ (T k).1 = C
theorem tk_get {index ci k a : Nat} {fs : List Value} {v : Value} (hd : decode cc pc = .ok (.getfield index, 3)) (hF : tk_F y.cls index ci k) (hw : w[a]? = some (.inr (ci, fs))) (hv : fs[k]? = some v)
    (kk : tk_T y cc nL rt hh d kc ks ro cells slots Q (pc + 3) lv (v :: rest) w) : tk_T y cc nL rt hh d kc ks ro cells slots Q pc lv (.ref a :: rest) w := by
  intro p l e s m args below meth c D dA A ad0 n0 I ad H locs ls g1 g2 g3 g4 g5 g6 g7
  obtain ⟨hx, hb, hml, hr, hlk, hnm, hown, hex, hts, hK, hA, hTh, hns, hst, hro⟩ := id I
  obtain ⟨C, T, N, h1, h2, h3, h4⟩ := hF
  have hv' : (fs.map (tk_v ad))[k]? = some (tk_v ad v) := by rw [List.getElem?_map, hv]; rfl
  rcases h4 with h4 | ⟨host, h4⟩
  · exact va_get (D := D) (ci := ci) (C := C) (T := T) (N := N) hx hb (hts.at args) h3 hown hK g3 a (tk_m_get hw) h1 k h2 (hts _ h4 args) (fun _ h9 => h9) hv' hd (kk p l e s m args below meth c D dA A ad0 n0 I ad H locs ls g1 g2 g3 g4 g5 g6 g7)
  · exact va_getN (D := D) (ci := ci) (C := C) (T := T) (N := N) hx hb (hts.at args) h3 hown hK g3 a (tk_m_get hw) h1 k h2 (hts _ h4 args) (fun _ h9 => h9) hv' hd (kk p l e s m args below meth c D dA A ad0 n0 I ad H locs ls g1 g2 g3 g4 g5 g6 g7)
theorem tk_narrow {ad : Nat → Nat} {ty : FieldType} {v : Value} (h : narrow ty v = v) : narrow ty (tk_v ad v) = tk_v ad v := by
  cases v with
  | ref k => cases ty <;> rfl
  | _ => exact h
theorem tk_fits {ad : Nat → Nat} {ty : FieldType} {v : Value} (h : fits ty v = true) : fits ty (tk_v ad v) = true := by
  cases v with
  | ref k => cases ty <;> first | rfl | exact h | (simp [fits] at h)
  | _ => exact h
theorem tk_set_e {dA : Nat → ClassId} {ad : Nat → Nat} {w : tk_W} {a ci k : Nat} {fs : List Value} {v : Value} : (tk_m dA ad w).set a (ad a, .inr (ci, (fs.map (tk_v ad)).set k (tk_v ad v))) = tk_m dA ad (w.set a (.inr (ci, fs.set k v))) := by
  have h : (fs.map (tk_v ad)).set k (tk_v ad v) = (fs.set k v).map (tk_v ad) := (List.map_set ..).symm
  rw [h]
  exact tk_m_set a (.inr (ci, fs.set k v))
theorem tk_okE_set {n ci k : Nat} {fs : List Value} {v : Value} (h : tk_okE n (.inr (ci, fs)) = true) (hv : tk_ok n v = true) : tk_okE n (.inr (ci, fs.set k v)) = true := by
  refine List.all_eq_true.mpr fun u hu => ?_
  rcases List.mem_or_eq_of_mem_set hu with h1 | h1
  · exact List.all_eq_true.mp h u h1
  · rw [h1]; exact hv
theorem tk_put {index ci k a : Nat} {fs : List Value} {v : Value} {ty : FieldType} (hd : decode cc pc = .ok (.putfield index, 3)) (hF : tk_F y.cls index ci k) (hG : tk_FP ci k ty false) (hw : w[a]? = some (.inr (ci, fs))) (hn : narrow ty v = v) (hf : fits ty v = true) (hk : k < fs.length) (ho : tk_ok w.length v = true)
    (kk : tk_T y cc nL rt hh d kc ks ro cells slots Q (pc + 3) lv rest (w.set a (.inr (ci, fs.set k v)))) : tk_T y cc nL rt hh d kc ks ro cells slots Q pc lv (v :: .ref a :: rest) w := by
  intro p l e s m args below meth c D dA A ad0 n0 I ad H locs ls g1 g2 g3 g4 g5 g6 g7
  obtain ⟨hx, hb, hml, hr, hlk, hnm, hown, hex, hts, hK, hA, hTh, hns, hst, hro⟩ := id I
  obtain ⟨C, T, N, h1, h2, h3, h4⟩ := hF
  obtain ⟨C', T', N', ty0, k1, k2, k3, k4, k5, -⟩ := hG
  cases Option.some.inj (h1.symm.trans k1)
  have hk' : k < (fs.map (tk_v ad)).length := by rw [List.length_map]; exact hk
  have hwf : tk_wf (w.set a (.inr (ci, fs.set k v))) := tk_wf_set g6 (tk_okE_set (g6 a _ hw) ho)
  have hlen : (w.set a (.inr (ci, fs.set k v))).length = w.length := List.length_set
  rcases h4 with h4 | ⟨host, h4⟩
  · refine va_put (D := D) (ci := ci) (ty := ty) (C := C) (T := T) (N := N) hx hb (hts.at args) h3 ty0 k2 k3 hown hK g3 g4 g5 a (tk_m_get hw) h1 k h2 (hts _ h4 args) (fun _ h9 => h9) k4 k5 (tk_narrow hn) (tk_fits hf) hk' hd (fun H1 locs1 e3 e4 e5 => ?_)
    rw [tk_set_e] at e3 e4
    exact kk p l e s m args below meth c D dA A ad0 n0 I ad H1 locs1 ls (by rw [hlen]; exact g1) (by rw [hlen]; exact g2) e3 e4 e5 hwf g7
  · refine va_putN (D := D) (ci := ci) (ty := ty) (C := C) (T := T) (N := N) hx hb (hts.at args) h3 ty0 k2 k3 hown hK g3 g4 g5 a (tk_m_get hw) h1 k h2 (hts _ h4 args) (fun _ h9 => h9) k4 k5 (tk_narrow hn) (tk_fits hf) hk' hd (fun H1 locs1 e3 e4 e5 => ?_)
    rw [tk_set_e] at e3 e4
    exact kk p l e s m args below meth c D dA A ad0 n0 I ad H1 locs1 ls (by rw [hlen]; exact g1) (by rw [hlen]; exact g2) e3 e4 e5 hwf g7
/-- .. by a link that crosses no nest -/
def tk_FF (own : String) (index ci k : Nat) : Prop := ∃ (C : String) (T : u_T) (N : Nat), tk_cl[ci]? = some (C, T, N) ∧ k < N ∧ (∀ x ∈ u_ws C T N, x ∈ tk_tbl) ∧ Cond.fieldLink own index (T k).1 (T k).2.1 (T k).2.2.1 ∈ tk_tbl ∧ C = own
theorem tk_putF {index ci k a : Nat} {fs : List Value} {v : Value} {ty : FieldType} (hd : decode cc pc = .ok (.putfield index, 3)) (hF : tk_FF y.cls index ci k) (hG : tk_FP ci k ty true) (hi : y.name = "<init>") (hw : w[a]? = some (.inr (ci, fs))) (hn : narrow ty v = v) (hf : fits ty v = true) (hk : k < fs.length) (ho : tk_ok w.length v = true)
    (kk : tk_T y cc nL rt hh d kc ks ro cells slots Q (pc + 3) lv rest (w.set a (.inr (ci, fs.set k v)))) : tk_T y cc nL rt hh d kc ks ro cells slots Q pc lv (v :: .ref a :: rest) w := by
  intro p l e s m args below meth c D dA A ad0 n0 I ad H locs ls g1 g2 g3 g4 g5 g6 g7
  obtain ⟨hx, hb, hml, hr, hlk, hnm, hown, hex, hts, hK, hA, hTh, hns, hst, hro⟩ := id I
  obtain ⟨C, T, N, h1, h2, h3, h4, h5⟩ := hF
  obtain ⟨C', T', N', ty0, k1, k2, k3, k4, k5, k6⟩ := hG
  cases Option.some.inj (h1.symm.trans k1)
  have hk' : k < (fs.map (tk_v ad)).length := by rw [List.length_map]; exact hk
  have hwf : tk_wf (w.set a (.inr (ci, fs.set k v))) := tk_wf_set g6 (tk_okE_set (g6 a _ hw) ho)
  have hlen : (w.set a (.inr (ci, fs.set k v))).length = w.length := List.length_set
  refine va_putF (D := D) (ci := ci) (ty := ty) (C := C) (T := T) (N := N) hx hb (hts.at args) h3 ty0 k2 k3 hown hK g3 g4 g5 a (tk_m_get hw) h1 k h2 (hts _ h4 args) (fun _ h9 => h9) k4 (hnm.trans hi) (k6.trans h5) k5 (tk_narrow hn) (tk_fits hf) hk' hd (fun H1 locs1 e3 e4 e5 => ?_)
  rw [tk_set_e] at e3 e4
  exact kk p l e s m args below meth c D dA A ad0 n0 I ad H1 locs1 ls (by rw [hlen]; exact g1) (by rw [hlen]; exact g2) e3 e4 e5 hwf g7
/-! arrays of ints and longs -/
theorem tk_K (dA : Nat → ClassId) (t : Nat) (ty : FieldType) (h : tk_ty[t]? = some ty) : (tk_tys dA)[t]? = some (dA t, ty) := by
  match t, h with
  | 0, h => cases h; rfl
  | 1, h => cases h; rfl
  | 2, h => cases h; rfl
  | 3, h => cases h; rfl
  | t + 4, h => simp [tk_ty] at h
theorem tk_iald {a n : Nat} {f : Nat → Int32} {i : Int32} (j : Nat) (hd : decode cc pc = .ok (.iaload, 1)) (hw : w[a]? = some (.inl (0, n, .inl f))) (hi : i = nI j) (hj : j < n) (hn : n < 2 ^ 31)
    (kk : tk_T y cc nL rt hh d kc ks ro cells slots Q (pc + 1) lv (.int (f j) :: rest) w) : tk_T y cc nL rt hh d kc ks ro cells slots Q pc lv (.int i :: .ref a :: rest) w := by
  intro p l e s m args below meth c D dA A ad0 n0 I ad H locs ls g1 g2 g3 g4 g5 g6 g7
  subst hi
  have h9 : (nI j).toNatClampNeg = j := nI_clamp (by omega)
  refine va_iald (D := D) I.1 I.2.1 I.2.2.2.2.2.2.2.2.2.1 g3 a 0 (tk_m_get hw) rfl (vp_in_nI hj hn) hd ?_
  rw [h9]
  exact kk p l e s m args below meth c D dA A ad0 n0 I ad H locs ls g1 g2 g3 g4 g5 g6 g7
theorem tk_lald {a n : Nat} {f : Nat → Int64} {i : Int32} (j : Nat) (hd : decode cc pc = .ok (.laload, 1)) (hw : w[a]? = some (.inl (1, n, .inr (.inl f)))) (hi : i = nI j) (hj : j < n) (hn : n < 2 ^ 31)
    (kk : tk_T y cc nL rt hh d kc ks ro cells slots Q (pc + 1) lv (.long (f j) :: rest) w) : tk_T y cc nL rt hh d kc ks ro cells slots Q pc lv (.int i :: .ref a :: rest) w := by
  intro p l e s m args below meth c D dA A ad0 n0 I ad H locs ls g1 g2 g3 g4 g5 g6 g7
  subst hi
  have h9 : (nI j).toNatClampNeg = j := nI_clamp (by omega)
  refine va_lald (D := D) I.1 I.2.1 I.2.2.2.2.2.2.2.2.2.1 g3 a 1 (tk_m_get hw) rfl (vp_in_nI hj hn) hd ?_
  rw [h9]
  exact kk p l e s m args below meth c D dA A ad0 n0 I ad H locs ls g1 g2 g3 g4 g5 g6 g7
theorem tk_iast {a n : Nat} {f : Nat → Int32} {i x : Int32} (j : Nat) (hd : decode cc pc = .ok (.iastore, 1)) (hw : w[a]? = some (.inl (0, n, .inl f))) (hi : i = nI j) (hj : j < n) (hn : n < 2 ^ 31)
    (kk : tk_T y cc nL rt hh d kc ks ro cells slots Q (pc + 1) lv rest (w.set a (.inl (0, n, .inl (upd f j x))))) : tk_T y cc nL rt hh d kc ks ro cells slots Q pc lv (.int x :: .int i :: .ref a :: rest) w := by
  intro p l e s m args below meth c D dA A ad0 n0 I ad H locs ls g1 g2 g3 g4 g5 g6 g7
  subst hi
  have h9 : (nI j).toNatClampNeg = j := nI_clamp (by omega)
  refine va_iast (D := D) I.1 I.2.1 I.2.2.2.2.2.2.2.2.2.1 g3 g4 g5 a 0 (tk_m_get hw) rfl (vp_in_nI hj hn) hd (fun H1 locs1 e3 e4 e5 => ?_)
  rw [h9] at e3 e4
  have hs := tk_m_set (dA := dA) (ad := ad) (w := w) a (.inl (0, n, .inl (upd f j x)))
  have e3' : va_P D tk_cl (tk_m dA ad (w.set a (.inl (0, n, .inl (upd f j x))))) H1 := by rw [← hs]; exact e3
  have e4' : va_D A (tk_m dA ad (w.set a (.inl (0, n, .inl (upd f j x))))) := by rw [← hs]; exact e4
  exact kk p l e s m args below meth c D dA A ad0 n0 I ad H1 locs1 ls (by rw [List.length_set]; exact g1) (by rw [List.length_set]; exact g2) e3' e4' e5 (tk_wf_set g6 rfl) g7
theorem tk_last {a n : Nat} {f : Nat → Int64} {i : Int32} {x : Int64} (j : Nat) (hd : decode cc pc = .ok (.lastore, 1)) (hw : w[a]? = some (.inl (1, n, .inr (.inl f)))) (hi : i = nI j) (hj : j < n) (hn : n < 2 ^ 31)
    (kk : tk_T y cc nL rt hh d kc ks ro cells slots Q (pc + 1) lv rest (w.set a (.inl (1, n, .inr (.inl (vp_updL f j x)))))) : tk_T y cc nL rt hh d kc ks ro cells slots Q pc lv (.long x :: .int i :: .ref a :: rest) w := by
  intro p l e s m args below meth c D dA A ad0 n0 I ad H locs ls g1 g2 g3 g4 g5 g6 g7
  subst hi
  have h9 : (nI j).toNatClampNeg = j := nI_clamp (by omega)
  refine va_last (D := D) I.1 I.2.1 I.2.2.2.2.2.2.2.2.2.1 g3 g4 g5 a 1 (tk_m_get hw) rfl (vp_in_nI hj hn) hd (fun H1 locs1 e3 e4 e5 => ?_)
  rw [h9] at e3 e4
  have hs := tk_m_set (dA := dA) (ad := ad) (w := w) a (.inl (1, n, .inr (.inl (vp_updL f j x))))
  have e3' : va_P D tk_cl (tk_m dA ad (w.set a (.inl (1, n, .inr (.inl (vp_updL f j x)))))) H1 := by rw [← hs]; exact e3
  have e4' : va_D A (tk_m dA ad (w.set a (.inl (1, n, .inr (.inl (vp_updL f j x)))))) := by rw [← hs]; exact e4
  exact kk p l e s m args below meth c D dA A ad0 n0 I ad H1 locs1 ls (by rw [List.length_set]; exact g1) (by rw [List.length_set]; exact g2) e3' e4' e5 (tk_wf_set g6 rfl) g7
theorem tk_alen {a t : Nat} {ty : FieldType} {x : vp_A} {v : Int32} (hd : decode cc pc = .ok (.arraylength, 1)) (hw : w[a]? = some (.inl (t, x))) (ht : tk_ty[t]? = some ty) (hv : Int32.ofNat x.1 = v)
    (kk : tk_T y cc nL rt hh d kc ks ro cells slots Q (pc + 1) lv (.int v :: rest) w) : tk_T y cc nL rt hh d kc ks ro cells slots Q pc lv (.ref a :: rest) w := by
  intro p l e s m args below meth c D dA A ad0 n0 I ad H locs ls g1 g2 g3 g4 g5 g6 g7
  exact va_alen (D := D) I.1 I.2.1 I.2.2.2.2.2.2.2.2.2.1 g3 a t (tk_m_get hw) (tk_K dA t ty ht) hv hd (kk p l e s m args below meth c D dA A ad0 n0 I ad H locs ls g1 g2 g3 g4 g5 g6 g7)
/-! the script: an array that nobody writes -/
theorem tk_sld {k L : Nat} {xs : Nat → Int32} {i : Int32} (j : Nat) (hd : decode cc pc = .ok (.iaload, 1)) (hr : ro k = some (L, xs)) (hk : w.length ≤ k) (hi : i = nI j) (hj : j < L) (hn : L < 2 ^ 31)
    (kk : tk_T y cc nL rt hh d kc ks ro cells slots Q (pc + 1) lv (.int (xs j) :: rest) w) : tk_T y cc nL rt hh d kc ks ro cells slots Q pc lv (.int i :: .ref k :: rest) w := by
  intro p l e s m args below meth c D dA A ad0 n0 I ad H locs ls g1 g2 g3 g4 g5 g6 g7
  subst hi
  have h9 : (nI j).toNatClampNeg = j := nI_clamp (by omega)
  obtain ⟨q1, q2, q3⟩ := I.2.2.2.2.2.2.2.2.2.2.2.2.2.2 k L xs hr
  have ha : ad k = ad0 k := g1 k (Or.inr hk)
  show W p l e (tk_rm d kc ks) s m args below meth c H locs cells slots _ (F0 m pc ls (.int (nI j) :: .ref (ad k) :: rest.map (tk_v ad)))
  rw [ha]
  refine va_sld I.1 I.2.1 q1 q2 q3 g5 (vp_in_nI hj hn) hd ?_
  rw [h9]
  exact kk p l e s m args below meth c D dA A ad0 n0 I ad H locs ls g1 g2 g3 g4 g5 g6 g7
theorem tk_slen {k L : Nat} {xs : Nat → Int32} (hd : decode cc pc = .ok (.arraylength, 1)) (hr : ro k = some (L, xs)) (hk : w.length ≤ k)
    (kk : tk_T y cc nL rt hh d kc ks ro cells slots Q (pc + 1) lv (.int (nI L) :: rest) w) : tk_T y cc nL rt hh d kc ks ro cells slots Q pc lv (.ref k :: rest) w := by
  intro p l e s m args below meth c D dA A ad0 n0 I ad H locs ls g1 g2 g3 g4 g5 g6 g7
  obtain ⟨q1, q2, q3⟩ := I.2.2.2.2.2.2.2.2.2.2.2.2.2.2 k L xs hr
  have ha : ad k = ad0 k := g1 k (Or.inr hk)
  show W p l e (tk_rm d kc ks) s m args below meth c H locs cells slots _ (F0 m pc ls (.ref (ad k) :: rest.map (tk_v ad)))
  rw [ha]
  exact va_slen I.1 I.2.1 q1 q2 q3 g5 hd (kk p l e s m args below meth c D dA A ad0 n0 I ad H locs ls g1 g2 g3 g4 g5 g6 g7)
/-! a method's ends -/
theorem tk_end {p : Program} {l : Launch} {e : Env} {s : State} {m : MethodId} {args : Array Value} {below : List Frame} {meth : Method} {c : Code} {D : va_G} {dA : Nat → ClassId} {A : Nat → Prop} {ad0 : Nat → Nat} {n0 : Nat} {R : Room} {H : Heap} {locs : List Loc} {g : JFrame}
    {Qc : Array Value → State → Outcome → State → Prop} (h : ∀ o t, Qc args s o t → va_F A s t ∧ ∃ (r : tk_R) (ad : Nat → Nat) (w : tk_W), Q r w ∧ tk_Out ad s t o r ∧ tk_Ag n0 w.length ad0 ad ∧ n0 ≤ w.length ∧ va_P D tk_cl (tk_m dA ad w) t.heap ∧ va_D A (tk_m dA ad w) ∧ tk_wf w)
    (k : W p l e R s m args below meth c H locs cells slots (MQ below Qc args s kc ks A) g) : W p l e R s m args below meth c H locs cells slots (tk_Z below D dA A ad0 n0 s kc ks Q) g := by
  intro T hT X
  obtain ⟨t, a1, o, b1, b2, b3, L, ⟨-, f2, f3⟩, b5⟩ := k T hT X
  obtain ⟨h1, h2⟩ := h o t b3
  exact ⟨t, a1, o, b1, b2, ⟨f2, L, f3, b5⟩, h1, h2⟩
theorem tk_ireturn {x : Int32} {ty : FieldType} (hd : decode cc pc = .ok (.ireturn, 1)) (hr : rt = some ty) (hn : narrow ty (.int x) = .int x) (hc : cells ≤ kc) (hs : slots ≤ ks) (q : Q (.inl (some (.int x))) w) : tk_T y cc nL rt hh d kc ks ro cells slots Q pc lv [.int x] w := by
  intro p l e s m args below meth c D dA A ad0 n0 I ad H locs ls g1 g2 g3 g4 g5 g6 g7
  refine W.widen hc hs (tk_end (Qc := fun _ s' o t => t.heap = H ∧ o = .returned (some (.int x))) ?_ (W.zret (ty := ty) I.1 I.2.1 (I.2.2.2.1.trans hr) hn (fun t ht _ => ⟨ht, rfl⟩) g5.2.2 hd I.2.2.2.2.1))
  rintro o t ⟨ht, rfl⟩
  exact ⟨g5.F ht, .inl (some (.int x)), ad, w, q, rfl, g1, g2, by rw [ht]; exact g3, g4, g6⟩
theorem tk_lreturn {x : Int64} (hd : decode cc pc = .ok (.lreturn, 1)) (hr : rt = some .long) (hc : cells ≤ kc) (hs : slots ≤ ks) (q : Q (.inl (some (.long x))) w) : tk_T y cc nL rt hh d kc ks ro cells slots Q pc lv [.long x] w := by
  intro p l e s m args below meth c D dA A ad0 n0 I ad H locs ls g1 g2 g3 g4 g5 g6 g7
  refine W.widen hc hs (tk_end (Qc := fun _ s' o t => t.heap = H ∧ o = .returned (some (.long x))) ?_ (W.lret I.1 I.2.1 (I.2.2.2.1.trans hr) (fun t ht _ => ⟨ht, rfl⟩) g5.2.2 hd I.2.2.2.2.1))
  rintro o t ⟨ht, rfl⟩
  exact ⟨g5.F ht, .inl (some (.long x)), ad, w, q, rfl, g1, g2, by rw [ht]; exact g3, g4, g6⟩
theorem tk_return (hd : decode cc pc = .ok (.return_, 1)) (hr : rt = none) (hc : cells ≤ kc) (hs : slots ≤ ks) (q : Q (.inl none) w) : tk_T y cc nL rt hh d kc ks ro cells slots Q pc lv [] w := by
  intro p l e s m args below meth c D dA A ad0 n0 I ad H locs ls g1 g2 g3 g4 g5 g6 g7
  refine W.widen hc hs (tk_end (Qc := fun _ s' o t => t.heap = H ∧ o = .returned none) ?_ (W.vret I.1 I.2.1 (I.2.2.2.1.trans hr) (fun t ht _ => ⟨ht, rfl⟩) g5.2.2 hd I.2.2.2.2.1))
  rintro o t ⟨ht, rfl⟩
  exact ⟨g5.F ht, .inl none, ad, w, q, rfl, g1, g2, by rw [ht]; exact g3, g4, g6⟩
/-! Object.<init>, Math -/
theorem tk_cs {ad : Nat → Nat} (st : List Value) : ((st.map (tk_v ad)).map fun v => v.category).sum = (st.map fun v => v.category).sum := by
  rw [List.map_map]
  congr 1
  exact List.map_congr_left (fun v _ => tk_cat ad v)
theorem tk_objInit {idx a : Nat} (hd : decode cc pc = .ok (.invokespecial idx, 3)) (h1 : Cond.methodLink y.cls idx Lib.objectInit ∈ tk_tbl) (h2 : Cond.instanceMethod Lib.objectInit ∈ tk_tbl) (h3 : Cond.code Lib.objectInit ⟨#[0xb1]⟩ 1 none ∈ tk_tbl) (hr : (rest.map fun v => v.category).sum ≤ 8)
    (kk : tk_T y cc nL rt hh d kc ks ro cells slots Q (pc + 3) lv rest w) : tk_T y cc nL rt hh d kc ks ro cells slots Q pc lv (.ref a :: rest) w := by
  intro p l e s m args below meth c D dA A ad0 n0 I ad H locs ls g1 g2 g3 g4 g5 g6 g7
  obtain ⟨hx, hb, hml, hr', hlk, hnm, hown, hex, hts, hK, hA, hTh, hns, hst, hro⟩ := id I
  refine W.objInit hx hb hown (hts _ h1 args) (hts _ h2 args) (hts _ h3 args) rfl (by rw [hml]; exact g7.1) rfl hd (by show 1 ≤ d + 8; omega) (by show 2 * 0 + _ + 12 ≤ d * 60 + 240; rw [tk_cs]; omega) ?_
  exact kk p l e s m args below meth c D dA A ad0 n0 I ad H locs ls g1 g2 g3 g4 g5 g6 g7
theorem tk_mmin {idx : Nat} {x z : Int32} (hd : decode cc pc = .ok (.invokestatic idx, 3)) (h1 : Cond.methodLink y.cls idx Lib.Math.min.name ∈ tk_tbl) (h2 : Cond.static Lib.Math.min.name ∈ tk_tbl) (h3 : Cond.initialized "java/lang/Math" ∈ tk_tbl) (h4 : Cond.code Lib.Math.min.name Lib.Math.min.code 2 (some .int) ∈ tk_tbl) (hr : (rest.map fun v => v.category).sum ≤ 8) (hc : cells ≤ kc) (hs : slots ≤ ks)
    (kk : tk_T y cc nL rt hh d kc ks ro cells slots Q (pc + 3) lv (.int (if z < x then z else x) :: rest) w) : tk_T y cc nL rt hh d kc ks ro cells slots Q pc lv (.int z :: .int x :: rest) w := by
  intro p l e s m args below meth c D dA A ad0 n0 I ad H locs ls g1 g2 g3 g4 g5 g6 g7
  obtain ⟨hx, hb, hml, hr', hlk, hnm, hown, hex, hts, hK, hA, hTh, hns, hst, hro⟩ := id I
  exact va_mmin hx hb (hml.trans g7.1.symm) hown (hts _ h1 args) (hts _ h2 args) (hts _ h3 args) (hts _ h4 args) (by show 1 ≤ d + 8; omega) (by show _ + 13 ≤ d * 60 + 240; rw [tk_cs]; omega) hc hs hd (kk p l e s m args below meth c D dA A ad0 n0 I ad H locs ls g1 g2 g3 g4 g5 g6 g7)
theorem tk_mmax {idx : Nat} {x z : Int32} (hd : decode cc pc = .ok (.invokestatic idx, 3)) (h1 : Cond.methodLink y.cls idx Lib.Math.max.name ∈ tk_tbl) (h2 : Cond.static Lib.Math.max.name ∈ tk_tbl) (h3 : Cond.initialized "java/lang/Math" ∈ tk_tbl) (h4 : Cond.code Lib.Math.max.name Lib.Math.max.code 2 (some .int) ∈ tk_tbl) (hr : (rest.map fun v => v.category).sum ≤ 8) (hc : cells ≤ kc) (hs : slots ≤ ks)
    (kk : tk_T y cc nL rt hh d kc ks ro cells slots Q (pc + 3) lv (.int (if x < z then z else x) :: rest) w) : tk_T y cc nL rt hh d kc ks ro cells slots Q pc lv (.int z :: .int x :: rest) w := by
  intro p l e s m args below meth c D dA A ad0 n0 I ad H locs ls g1 g2 g3 g4 g5 g6 g7
  obtain ⟨hx, hb, hml, hr', hlk, hnm, hown, hex, hts, hK, hA, hTh, hns, hst, hro⟩ := id I
  exact va_mmax hx hb (hml.trans g7.1.symm) hown (hts _ h1 args) (hts _ h2 args) (hts _ h3 args) (hts _ h4 args) (by show 1 ≤ d + 8; omega) (by show _ + 13 ≤ d * 60 + 240; rw [tk_cs]; omega) hc hs hd (kk p l e s m args below meth c D dA A ad0 n0 I ad H locs ls g1 g2 g3 g4 g5 g6 g7)
theorem tk_mminL {idx : Nat} {x z : Int64} (hd : decode cc pc = .ok (.invokestatic idx, 3)) (h1 : Cond.methodLink y.cls idx Lib.MathLoose.min_long.x ∈ tk_tbl) (h2 : Cond.static Lib.MathLoose.min_long.x ∈ tk_tbl) (h3 : Cond.initialized "java/lang/Math" ∈ tk_tbl) (h4 : Cond.code Lib.MathLoose.min_long.x Lib.MathLoose.min_long.code 4 (some .long) ∈ tk_tbl) (hr : (rest.map fun v => v.category).sum ≤ 8) (hc : cells ≤ kc) (hs : slots ≤ ks)
    (kk : tk_T y cc nL rt hh d kc ks ro cells slots Q (pc + 3) lv (.long (if z < x then z else x) :: rest) w) : tk_T y cc nL rt hh d kc ks ro cells slots Q pc lv (.long z :: .long x :: rest) w := by
  intro p l e s m args below meth c D dA A ad0 n0 I ad H locs ls g1 g2 g3 g4 g5 g6 g7
  obtain ⟨hx, hb, hml, hr', hlk, hnm, hown, hex, hts, hK, hA, hTh, hns, hst, hro⟩ := id I
  exact va_mmin_long hx hb (hml.trans g7.1.symm) hown (hts _ h1 args) (hts _ h2 args) (hts _ h3 args) (hts _ h4 args) (by show 1 ≤ d + 8; omega) (by show _ + 15 ≤ d * 60 + 240; rw [tk_cs]; omega) hc hs hd (kk p l e s m args below meth c D dA A ad0 n0 I ad H locs ls g1 g2 g3 g4 g5 g6 g7)
theorem tk_mmaxL {idx : Nat} {x z : Int64} (hd : decode cc pc = .ok (.invokestatic idx, 3)) (h1 : Cond.methodLink y.cls idx Lib.MathLoose.max_long.x ∈ tk_tbl) (h2 : Cond.static Lib.MathLoose.max_long.x ∈ tk_tbl) (h3 : Cond.initialized "java/lang/Math" ∈ tk_tbl) (h4 : Cond.code Lib.MathLoose.max_long.x Lib.MathLoose.max_long.code 4 (some .long) ∈ tk_tbl) (hr : (rest.map fun v => v.category).sum ≤ 8) (hc : cells ≤ kc) (hs : slots ≤ ks)
    (kk : tk_T y cc nL rt hh d kc ks ro cells slots Q (pc + 3) lv (.long (if z < x then x else z) :: rest) w) : tk_T y cc nL rt hh d kc ks ro cells slots Q pc lv (.long z :: .long x :: rest) w := by
  intro p l e s m args below meth c D dA A ad0 n0 I ad H locs ls g1 g2 g3 g4 g5 g6 g7
  obtain ⟨hx, hb, hml, hr', hlk, hnm, hown, hex, hts, hK, hA, hTh, hns, hst, hro⟩ := id I
  exact va_mmax_long hx hb (hml.trans g7.1.symm) hown (hts _ h1 args) (hts _ h2 args) (hts _ h3 args) (hts _ h4 args) (by show 1 ≤ d + 8; omega) (by show _ + 15 ≤ d * 60 + 240; rw [tk_cs]; omega) hc hs hd (kk p l e s m args below meth c D dA A ad0 n0 I ad H locs ls g1 g2 g3 g4 g5 g6 g7)
/-! new objects, new arrays -/
def tk_fr (n : Nat) (v : Value) : Bool := match v with
  | .ref k => !(k == n)
  | _ => true
theorem tk_v_fr {ad : Nat → Nat} {n q : Nat} {v : Value} (h : tk_fr n v = true) : tk_v (tk_up ad n q) v = tk_v ad v := by
  cases v with
  | ref k =>
    have hk : ¬ k = n := by simpa [tk_fr] using h
    show Value.ref (if k = n then q else ad k) = .ref (ad k)
    rw [if_neg hk]
  | _ => rfl
def tk_frL (n : Nat) (lv : List (Option Value)) : Bool := lv.all (fun o => match o with
  | some v => tk_fr n v
  | none => true)
theorem tk_map_fr {ad : Nat → Nat} {n q : Nat} {st : List Value} (h : st.all (tk_fr n) = true) : st.map (tk_v (tk_up ad n q)) = st.map (tk_v ad) :=
  List.map_congr_left (fun v hv => tk_v_fr (List.all_eq_true.mp h v hv))
theorem tk_L.fr {ad : Nat → Nat} {n q nL : Nat} {ls : Array Slot} {lv : List (Option Value)} (h : tk_L ad ls nL lv) (hf : tk_frL n lv = true) : tk_L (tk_up ad n q) ls nL lv := by
  refine ⟨h.1, h.2.1, fun i v hi => ?_⟩
  have h1 := List.all_eq_true.mp hf (some v) (List.mem_of_getElem? hi)
  rw [tk_v_fr h1]
  exact h.2.2 i v hi
/-- own's pool entry 'index' is the class ci, of N fields, whose defaults are fs -/
def tk_Nw (own : String) (index ci N : Nat) (fs : List Value) : Prop := ∃ (C : String) (T : u_T) (ty : Nat → FieldType), tk_cl[ci]? = some (C, T, N) ∧ (∀ x ∈ u_ws C T N, x ∈ tk_tbl) ∧ (∀ k, k < N → parseFieldDescriptor (T k).2.2.1 = some (ty k)) ∧ Cond.classLink own index C ∈ tk_tbl ∧ Cond.instantiable C N ∈ tk_tbl ∧ Cond.initialized C ∈ tk_tbl ∧ (∀ j, j < N → defaultValue (ty j) = vp_V fs j)
theorem tk_new {index ci N n : Nat} {fs : List Value} (hd : decode cc pc = .ok (.new index, 3)) (hN : tk_Nw y.cls index ci N fs) (hn : w.length = n) (hfs : fs.all (fun v => match v with | .ref _ => false | _ => true) = true) (hst0 : rest.all (tk_fr n) = true) (hlv0 : tk_frL n lv = true) (hc : cells + 1 ≤ kc) (hs : slots + N ≤ ks)
    (kk : tk_T y cc nL rt hh d kc ks ro (cells + 1) (slots + N) Q (pc + 3) lv (.ref n :: rest) (w ++ [.inr (ci, fs)])) : tk_T y cc nL rt hh d kc ks ro cells slots Q pc lv rest w := by
  intro p l e s m args below meth c D dA A ad0 n0 I ad H locs ls g1 g2 g3 g4 g5 g6 g7
  obtain ⟨hx, hb, hml, hr', hlk, hnm, hown, hex, hts, hK, hA, hTh, hns, hst, hro⟩ := id I
  obtain ⟨C, T, ty, h1, h2, h3, h4, h5, h6, h7⟩ := hN
  subst hn
  have hok : tk_okE w.length (.inr (ci, fs)) = true := by
    refine List.all_eq_true.mpr fun v hv => ?_
    have := List.all_eq_true.mp hfs v hv
    cases v <;> first | rfl | (simp at this)
  have hfm : fs.map (tk_v ad) = fs := by
    have h9 : fs.map (tk_v ad) = fs.map id := List.map_congr_left (fun v hv => by
      have := List.all_eq_true.mp hfs v hv
      cases v <;> first | rfl | (simp at this))
    rw [h9, List.map_id]
  refine va_new (D := D) (ci := ci) (fs := fs) (C := C) (T := T) (N := N) hx hb (hts.at args) h2 ty h3 hown (hts _ h4 args) (hts _ h5 args) (hts _ h6 args) hK g3 g4 g5 hA h1 h7 hc hs hd (fun q H1 e3 e4 e5 => ?_)
  have hpush := tk_m_push (dA := dA) (ad := ad) (w := w) (x := .inr (ci, fs)) (q := q) g6 hok
  have he : (q, tk_e dA ad (.inr (ci, fs))) = ((q, .inr (ci, fs)) : Nat × va_E) := by
    show (q, (Sum.inr (ci, fs.map (tk_v ad)) : va_E)) = _
    rw [hfm]
  rw [he] at hpush
  have hl : (w ++ [(.inr (ci, fs) : tk_E)]).length = w.length + 1 := by simp
  have hg1 : tk_Ag n0 (w ++ [(.inr (ci, fs) : tk_E)]).length ad0 (tk_up ad w.length q) := by
    intro k hk
    rw [hl] at hk
    show (if k = w.length then q else ad k) = ad0 k
    rw [if_neg (by omega)]
    exact g1 k (by omega)
  have kk' := kk p l e s m args below meth c D dA A ad0 n0 I (tk_up ad w.length q) H1 locs ls hg1 (by rw [hl]; omega) (by rw [hpush]; exact e3) (by rw [hpush]; exact e4) e5 (tk_wf_push g6 hok) (g7.fr hlv0)
  have hs2 : (Value.ref w.length :: rest).map (tk_v (tk_up ad w.length q)) = .ref q :: rest.map (tk_v ad) := by
    rw [List.map_cons, tk_map_fr hst0]
    show Value.ref (if w.length = w.length then q else ad w.length) :: _ = _
    rw [if_pos rfl]
  rw [hs2] at kk'
  exact kk'
theorem tk_newa {t n N : Nat} {i : Int32} {aty : ArrayType} {ty : FieldType} {a0 : vp_A} (hd : decode cc pc = .ok (.newarray aty, 2)) (hA : Cond.arrayClass (newarray.typeOf aty) ∈ tk_tbl) (hty : newarray.typeOf aty = ty) (ht : tk_ty[t]? = some ty) (ha : ∀ cA : ClassId, vp_cell cA a0 = arrV cA N (fun _ => defaultValue ty)) (hi : i = nI N) (hN : N < 100000) (hn : w.length = n) (hst0 : rest.all (tk_fr n) = true) (hlv0 : tk_frL n lv = true) (hc : cells + 1 ≤ kc) (hs : slots + N ≤ ks)
    (kk : tk_T y cc nL rt hh d kc ks ro (cells + 1) (slots + N) Q (pc + 2) lv (.ref n :: rest) (w ++ [.inl (t, a0)])) : tk_T y cc nL rt hh d kc ks ro cells slots Q pc lv (.int i :: rest) w := by
  intro p l e s m args below meth c D dA A ad0 n0 I ad H locs ls g1 g2 g3 g4 g5 g6 g7
  obtain ⟨hx, hb, hml, hr', hlk, hnm, hown, hex, hts, hK, hAa, hTh, hns, hst, hro⟩ := id I
  subst hn
  subst hi
  have hb9 : N * componentBytes ty ≤ 536870912 := by
    have : componentBytes ty ≤ 8 := by cases ty <;> first | decide | (show _ ≤ 8; simp [componentBytes]) | simp [componentBytes]
    calc N * componentBytes ty ≤ 100000 * 8 := Nat.mul_le_mul (Nat.le_of_lt hN) this
      _ ≤ 536870912 := by decide
  refine va_newa (D := D) hx hb (hts _ hA args) hty hK g3 g4 g5 hAa ha (nI_pos (by omega)) (nI_clamp (by omega)) hb9 hc hs hd (fun q cA H1 eK e3 e4 e5 => ?_)
  have hcA : cA = dA t := by
    have h1 := (eK.2 (tk_tys dA).length (cA, ty) (by simp)).2
    have h2 := (hK.2 t (dA t, ty) (tk_K dA t ty ht)).2
    have h3 : ty = .int ∨ ty = .long ∨ ty = .boolean ∨ ty = .byte := by
      match t, ht with
      | 0, h => cases h; exact Or.inl rfl
      | 1, h => cases h; exact Or.inr (Or.inl rfl)
      | 2, h => cases h; exact Or.inr (Or.inr (Or.inl rfl))
      | 3, h => cases h; exact Or.inr (Or.inr (Or.inr rfl))
      | t + 4, h => simp [tk_ty] at h
    rcases h3 with rfl | rfl | rfl | rfl <;> exact Option.some.inj (h1.symm.trans h2)
  subst hcA
  have hpush := tk_m_push (dA := dA) (ad := ad) (w := w) (x := .inl (t, a0)) (q := q) g6 rfl
  have hl : (w ++ [(.inl (t, a0) : tk_E)]).length = w.length + 1 := by simp
  have hg1 : tk_Ag n0 (w ++ [(.inl (t, a0) : tk_E)]).length ad0 (tk_up ad w.length q) := by
    intro k hk
    rw [hl] at hk
    show (if k = w.length then q else ad k) = ad0 k
    rw [if_neg (by omega)]
    exact g1 k (by omega)
  have kk' := kk p l e s m args below meth c D dA A ad0 n0 I (tk_up ad w.length q) H1 locs ls hg1 (by rw [hl]; omega) (by rw [hpush]; exact e3) (by rw [hpush]; exact e4) e5 (tk_wf_push g6 rfl) (g7.fr hlv0)
  have hs2 : (Value.ref w.length :: rest).map (tk_v (tk_up ad w.length q)) = .ref q :: rest.map (tk_v ad) := by
    rw [List.map_cons, tk_map_fr hst0]
    show Value.ref (if w.length = w.length then q else ad w.length) :: _ = _
    rw [if_pos rfl]
  rw [hs2] at kk'
  exact kk'
end TKH
end
section
/-! ===== calls that return or throw ===== -/
/-- a value whose place isn't among those that have come -/
def tk_kp (n n' : Nat) (v : Value) : Prop := ∀ k : Nat, v = .ref k → k < n ∨ n' ≤ k
theorem tk_v_kp {n n' : Nat} {ad ad' : Nat → Nat} {v : Value} (hA : tk_Ag n n' ad ad') (h : tk_kp n n' v) : tk_v ad' v = tk_v ad v := by
  cases v with
  | ref k => show Value.ref (ad' k) = .ref (ad k); rw [hA k (h k rfl)]
  | _ => rfl
def tk_kps (n n' : Nat) (lv : List (Option Value)) (st : List Value) : Prop := (∀ v ∈ st, tk_kp n n' v) ∧ ∀ (i : Nat) (v : Value), lv[i]? = some (some v) → tk_kp n n' v
theorem tk_kps_same {n n' : Nat} {lv : List (Option Value)} {st : List Value} (h : n' = n) : tk_kps n n' lv st := by
  subst h
  exact ⟨fun v _ k _ => by omega, fun i v _ k _ => by omega⟩
def tk_kpB (n n' : Nat) (v : Value) : Bool := match v with
  | .ref k => decide (k < n) || decide (n' ≤ k)
  | _ => true
theorem tk_kp_of {n n' : Nat} {v : Value} (h : tk_kpB n n' v = true) : tk_kp n n' v := by
  intro k hk
  subst hk
  simpa [tk_kpB] using h
theorem tk_kps_of {n n' : Nat} {lv : List (Option Value)} {st : List Value} (h1 : st.all (tk_kpB n n') = true) (h2 : lv.all (fun o => match o with | some v => tk_kpB n n' v | none => true) = true) : tk_kps n n' lv st :=
  ⟨fun v hv => tk_kp_of (List.all_eq_true.mp h1 v hv), fun i v hi => tk_kp_of (List.all_eq_true.mp h2 (some v) (List.mem_of_getElem? hi))⟩
/-- the machine goes from an invoking frame into the method y -/
def tk_Inv (p : Program) (l : Launch) (e : Env) (R : Room) (s : State) (m : MethodId) (args : Array Value) (below : List Frame) (meth : Method) (c : Code) (H : Heap) (locs : List Loc) (cells slots : Nat) (g : JFrame) (rest : List Value) (y : MethodName) (a : Array Value) : Prop :=
  ∀ T : State, T.heap = H → Stand p l e R s m args below meth c T locs cells slots → ∃ (mk : MethodId) (vm₁ : Vm), Stand p l e R s m args below meth c (T.setVm vm₁) locs cells slots ∧ s.methodNamed? y = some mk ∧
    ∀ target, Steps p.tables e below (doInvoke e ((T.setVm vm₁).setTop { g with stack := rest }) [] mk a).1 target → Steps p.tables e below (T.setTop g) target
/-- a code word: what it says of its method -/
def tk_isC (cw : Cond) (y : MethodName) (nL : Nat) : Prop := ∀ (a : Array Value) (U : State), cw.before a U = true → ∃ (mk : MethodId) (meth : Method) (c : Code), U.methodNamed? y = some mk ∧ U.vm.method? mk = some meth ∧ meth.code = some c ∧ c.maxLocals = nL ∧ parseMethodDescriptor y.desc = some meth.sig
theorem tk_isC_code {y : MethodName} {cc : ByteArray} {nL : Nat} {rt : Option FieldType} : tk_isC (.code y cc nL rt) y nL := by
  intro a U h
  obtain ⟨mk, hn⟩ := Cond.code_named h
  obtain ⟨meth, c, h1, h2, -, h4, -, -, -, h8⟩ := Cond.code_spec hn h
  exact ⟨mk, meth, c, hn, h1, h2, h4, h8⟩
theorem tk_isC_with {y : MethodName} {cc : ByteArray} {nL : Nat} {rt : Option FieldType} {hh : List (Nat × Nat × Nat × Nat)} : tk_isC (.codeWith y cc nL rt hh) y nL := by
  intro a U h
  obtain ⟨mk, meth, c, hn, h1, h2, -, h4, -, -, -, h8⟩ := Cond.codeWith_spec h
  exact ⟨mk, meth, c, hn, h1, h2, h4, h8⟩
section TKC
variable {y : MethodName} {cc : ByteArray} {nL : Nat} {rt : Option FieldType} {hh : List (Nat × Nat × Nat × Nat)} {d kc ks : Nat} {ro : Nat → Option (Nat × (Nat → Int32))} {cells slots : Nat} {Q : tk_R → tk_W → Prop} {pc : Nat} {lv : List (Option Value)} {rest : List Value} {w : tk_W}
/-- an exception of the class C is on its way, from pc -/
def tk_X (y : MethodName) (cc : ByteArray) (nL : Nat) (rt : Option FieldType) (hh : List (Nat × Nat × Nat × Nat)) (d kc ks : Nat) (ro : Nat → Option (Nat × (Nat → Int32))) (cells slots : Nat) (Q : tk_R → tk_W → Prop) (pc : Nat) (lv : List (Option Value)) (C : String) (w : tk_W) : Prop :=
  ∀ (p : Program) (l : Launch) (e : Env) (s : State) (m : MethodId) (args : Array Value) (below : List Frame) (meth : Method) (c : Code) (D : va_G) (dA : Nat → ClassId) (A : Nat → Prop) (ad0 : Nat → Nat) (n0 : Nat), tk_In p l s m meth c y cc nL rt hh D dA A ad0 ro →
  ∀ (ad : Nat → Nat) (H : Heap) (locs : List Loc) (ls : Array Slot) (st : List Value), tk_Ag n0 w.length ad0 ad → n0 ≤ w.length → va_P D tk_cl (tk_m dA ad w) H → va_D A (tk_m dA ad w) → va_S A s.heap H locs → tk_wf w → tk_L ad ls nL lv →
  ∀ (x : Addr) (ce : Cell), H[x]? = some ce → ce.vm = .none → s.vm.findClass C = some ce.cls →
  ∀ T : State, T.heap = H → Stand p l e (tk_rm d kc ks) s m args below meth c T locs cells slots → ∃ t, Steps p.tables e below ((T.setTop (F0 m pc ls st)).pushFrame (.throwing x)) t ∧ tk_Z below D dA A ad0 n0 s kc ks Q t
theorem tk_Th.at {A : Nat → Prop} {ad : Nat → Nat} {s U : State} {w : tk_W} {dA : Nat → ClassId} {H : Heap} {locs : List Loc} (h : tk_Th A s) (hvm : s.vm.Alike U.vm) (hU : U.heap = H) (hS : va_S A s.heap H locs) (hD : va_D A (tk_m dA ad w)) (hA : ∀ q : Nat, s.heap.size ≤ q → A q) : tk_Th (tk_A ad w H.size) U := by
  obtain ⟨u, v, h1, h2, h3, h4, h5, h6⟩ := h
  have hAB : ∀ q, tk_A ad w H.size q → A q := by
    intro q hq
    rcases hq with ⟨k, hk, rfl⟩ | hq
    · exact hD.2 k _ (tk_m_get (List.getElem?_eq_getElem hk))
    · exact hA q (Nat.le_trans hS.1 hq)
  refine ⟨u, v, h1, h2, ?_, ?_, ?_, ?_⟩
  · rw [hU]; exact ((h3.moved hvm).kept hS.2.1).narrow hAB
  · rw [hU]; exact ((h4.moved hvm).kept hS.2.1).narrow hAB
  · rw [hU]; exact h5.go hvm hS.2.1 hAB
  · rw [hU]; exact h6.go hvm hS.2.1 hAB
set_option maxHeartbeats 1000000 in
theorem tk_call {y' : MethodName} {cw : Cond} {nL' d' kc' ks' : Nat} {as st : List Value} {Q' : tk_R → tk_W → Prop} {ig : Instr} (hd : decode cc pc = .ok (ig, 3)) (hM : tk_M y' cw d' kc' ks' as w Q') (hC : tk_isC cw y' nL') (hcw : cw ∈ tk_tbl) (hini : Cond.initialized y'.cls ∈ tk_tbl)
    (hdd : d' < d) (hnL : nL' ≤ 40) (hkc : cells + kc' ≤ kc) (hks : slots + ks' ≤ ks) (hrest : (rest.map fun v => v.category).sum ≤ 8)
    (hinv : ∀ (p : Program) (l : Launch) (e : Env) (s : State) (m : MethodId) (args : Array Value) (below : List Frame) (meth : Method) (c : Code) (D : va_G) (dA : Nat → ClassId) (A : Nat → Prop) (ad0 : Nat → Nat), tk_In p l s m meth c y cc nL rt hh D dA A ad0 ro →
      ∀ (ad : Nat → Nat) (H : Heap) (locs : List Loc) (ls : Array Slot), va_P D tk_cl (tk_m dA ad w) H → ls.size = nL → tk_Inv p l e (tk_rm d kc ks) s m args below meth c H locs cells slots (F0 m pc ls (st.map (tk_v ad))) (rest.map (tk_v ad)) y' (as.map (tk_v ad)).toArray)
    (hkp : ∀ r w', Q' r w' → tk_kps w.length w'.length lv rest)
    (kr : ∀ r w', Q' (.inl r) w' → tk_T y cc nL rt hh d kc ks ro (cells + kc') (slots + ks') Q (pc + 3) lv (r.toList ++ rest) w')
    (kx : ∀ C w', Q' (.inr C) w' → tk_X y cc nL rt hh d kc ks ro (cells + kc') (slots + ks') Q pc lv C w') : tk_T y cc nL rt hh d kc ks ro cells slots Q pc lv st w := by
  intro p l e s m args below meth c D dA A ad0 n0 I ad H locs ls g1 g2 g3 g4 g5 g6 g7
  obtain ⟨hx, hb, hml, hr', hlk, hnm, hown, hex, hts, hK, hA, hTh, hns, hst, hro⟩ := id I
  intro T hT X
  obtain ⟨mk, vm₁, X₁, hnamed, hstep⟩ := hinv p l e s m args below meth c D dA A ad0 I ad H locs ls g3 g7.1 T hT X
  have hAB : ∀ q, tk_A ad w H.size q → A q := by
    intro q hq
    rcases hq with ⟨k, hk, rfl⟩ | hq
    · exact g4.2 k _ (tk_m_get (List.getElem?_eq_getElem hk))
    · exact hA q (Nat.le_trans g5.1 hq)
  generalize hU : T.setVm vm₁ = U at X₁ hstep
  have hUH : U.heap = H := by rw [← hU]; exact hT
  generalize hg : ({ method := m, pc := pc, locals := ls, stack := rest.map (tk_v ad), locked := none } : JFrame) = g
  have hgm : g.method = m := by rw [← hg]
  have hgs : g.locals.size = c.maxLocals := by rw [← hg]; exact g7.1.trans hml.symm
  have hgp : g.pc = pc := by rw [← hg]
  have hdg : decode c.code g.pc = .ok (ig, 3) := by rw [hb, hgp]; exact hd
  have hgw : 2 * g.monitorRoom + (g.stack.map fun v => v.category).sum ≤ 8 := by
    rw [← hg]
    show 2 * 0 + ((rest.map (tk_v ad)).map fun v => v.category).sum ≤ 8
    rw [tk_cs]; omega
  have htsU : tk_ts U := hts.warm X₁.warmed
  obtain ⟨mk', methY, cY, hn', hmY, hcY, hlY, -⟩ := hC #[] U (htsU _ hcw #[])
  have hnU : U.methodNamed? y' = some mk := X₁.named hnamed
  cases hn'.symm.trans hnU
  obtain ⟨kY, hkY, -⟩ := className_of_methodNamed hnU
  have hinitY : kY.init = .initialized := Cond.initialized_spec (findClass_of_methodNamed hnU) hkY (htsU _ hini #[])
  have h : At U g.method c below := by rw [hgm]; exact X₁.here
  have happ : (headSpec [cw] (tk_rm d' kc' ks')).appliesLoose y' e.platform (U.calling g mk (as.map (tk_v ad)).toArray) = true :=
    Spec.appliesLoose_calling (g := g) h hdg hnU hkY hinitY
      (X₁.room_calling (g := g) (R' := tk_rm d' kc' ks') hgs hmY hcY (by show d' + 8 + 1 ≤ d + 8; omega) (by rw [hlY]; show _ + (nL' + 11) + (d' * 60 + 240) ≤ d * 60 + 240; omega) hkc hks) (atoms_intro (ws := [cw]) fun x hx' => by rw [List.mem_singleton.mp hx']; exact htsU _ hcw _)
  obtain ⟨mid, hmid⟩ := h.above
  have hfr : (U.setTop g).frames = (.java g :: mid) ++ below := by rw [State.frames_setTop' g h.top, hmid]; rfl
  have hPre : tk_U D dA ad w (U.calling g mk (as.map (tk_v ad)).toArray) := by
    have hh : (U.calling g mk (as.map (tk_v ad)).toArray).heap = H := hUH
    have hv : (U.calling g mk (as.map (tk_v ad)).toArray).vm = U.vm := rfl
    refine ⟨by rw [hh]; exact g3, g4.weaken (fun _ _ _ _ => trivial), va_K.moved (by rw [hv]; exact X₁.warmed.alike) hK, g6, hts.warm (by rw [hv]; exact X₁.warmed), ?_⟩
    rw [hh]
    exact hTh.at (by rw [hv]; exact X₁.warmed.alike) hh g5 g4 hA
  obtain ⟨o, s₂, hsteps, -, hend, hq⟩ := Steps.callFree (hM l hst D dA ad) p X.admits X.cas X.clock (acts := []) hfr happ ⟨rfl, hPre⟩ trivial
  have hq' : tk_Y D dA (tk_A ad w H.size) ad w.length (U.calling g mk (as.map (tk_v ad)).toArray) kc' ks' Q' o s₂ := by
    have hh : ((U.setTop g).pushFrame (.invoking mk (as.map (tk_v ad)).toArray)).heap.size = H.size := by
      show U.heap.size = H.size
      rw [hUH]
    rw [← hh]
    exact hq
  have hend' : Ended s₂ (.java g :: below) o := by
    rw [State.frames_setTop' g h.top, X₁.tail] at hend
    exact hend
  obtain ⟨⟨hW₂, L, hsame, hL⟩, hF, r, ad', w', hQ', hOut, hAg, hn9, hP', hD', hwf'⟩ := hq'
  have hFz : H.size ≤ s₂.heap.size := by rw [← hUH]; exact hF.1
  have hFk : ∀ q : Nat, q < H.size → ¬ tk_A ad w H.size q → s₂.heap[q]? = H[q]? := fun q h1 h2 => by
    have := hF.2 q (by show q < U.heap.size; rw [hUH]; exact h1) h2
    rw [this]
    show U.heap[q]? = H[q]?
    rw [hUH]
  have hS2 : va_S A s.heap s₂.heap (locs ++ L) := ⟨Nat.le_trans g5.1 hFz, fun q h1 h2 => (hFk q (Nat.lt_of_lt_of_le h1 g5.1) (fun z => h2 (hAB q z))).trans (g5.2.1 q h1 h2), fun q hq1 => by
    rcases List.mem_append.mp hq1 with h1 | h1
    · exact g5.2.2 q h1
    · exact hAB _ (hL q h1)⟩
  have hkp' := hkp r w' hQ'
  have hag2 : tk_Ag n0 w'.length ad0 ad' := fun k hk => (hAg k (by omega)).trans (g1 k (by omega))
  have hg7 : tk_L ad' ls nL lv := ⟨g7.1, g7.2.1, fun i v hi => by rw [tk_v_kp hAg (hkp'.2 i v hi)]; exact g7.2.2 i v hi⟩
  have hrm : rest.map (tk_v ad') = rest.map (tk_v ad) := List.map_congr_left (fun v hv => tk_v_kp hAg (hkp'.1 v hv))
  rcases r with v | C
  · obtain rfl : o = .returned (v.map (tk_v ad')) := hOut
    obtain ⟨T', X', hW3, -, hs2⟩ := X₁.outOf hgm hdg hend' hW₂ hsame
    have hTh' : T'.heap = s₂.heap := by rw [hs2]; rfl
    have hk := kr v w' hQ' p l e s m args below meth c D dA A ad0 n0 I ad' s₂.heap (locs ++ L) ls hag2 (Nat.le_trans g2 hn9) hP' (hD'.weaken (fun k q _ h9 => hAB q.1 h9)) hS2 hwf' hg7
    obtain ⟨t, a1, b1⟩ := hk T' hTh' X'
    refine ⟨t, hstep _ ?_, b1⟩
    rw [hg]
    refine hsteps.trans ?_
    rw [hs2, ← hg]
    have he : (v.toList ++ rest).map (tk_v ad') = (v.map (tk_v ad')).toList ++ rest.map (tk_v ad) := by
      rw [List.map_append, hrm]
      cases v <;> rfl
    rw [he] at a1
    exact a1
  · obtain ⟨x, ce, rfl, hce, hcv, hcl⟩ := hOut
    obtain ⟨T', X', hW3, -, hs2⟩ := X₁.outOfThrown hgm hend' hW₂ hsame
    have hTh' : T'.heap = s₂.heap := by rw [hs2]; rfl
    have hcl' : s.vm.findClass C = some ce.cls := by
      have h9 : U.vm.findClass C = some ce.cls := hcl
      rw [X₁.warmed.alike.findClass] at h9
      exact h9
    obtain ⟨t, a1, b1⟩ := kx C w' hQ' p l e s m args below meth c D dA A ad0 n0 I ad' s₂.heap (locs ++ L) ls (rest.map (tk_v ad)) hag2 (Nat.le_trans g2 hn9) hP' (hD'.weaken (fun k q _ h9 => hAB q.1 h9)) hS2 hwf' hg7 x ce hce hcv hcl' T' hTh' X'
    refine ⟨t, hstep _ ?_, b1⟩
    rw [hg]
    refine hsteps.trans ?_
    rw [hs2, ← hg]
    exact a1
/-- not caught here: it leaves the method -/
theorem tk_X.out {C : String} (hout : ∀ x ∈ hh, (decide (x.1 ≤ pc) && decide (pc < x.2.1)) = false) (hc : cells ≤ kc) (hs : slots ≤ ks) (q : Q (.inr C) w) : tk_X y cc nL rt hh d kc ks ro cells slots Q pc lv C w := by
  intro p l e s m args below meth c D dA A ad0 n0 I ad H locs ls st g1 g2 g3 g4 g5 g6 g7 x ce hce hcv hcl T hT X
  obtain ⟨hx, hb, hml, hr', hlk, hnm, hown, hex, hts, hK, hA, hTh, hns, hst, hro⟩ := id I
  have hout' : ∀ z ∈ c.exceptionTable.toList, covers z (F0 m pc ls st).pc = false := by
    intro z hz
    have := hout (z.startPc, z.endPc, z.handlerPc, z.catchType) (by rw [← hex]; exact List.mem_map.mpr ⟨z, hz, rfl⟩)
    exact this
  obtain ⟨st1, hrun, hend, hW, hsm⟩ := X.leaveThrown x (g := F0 m pc ls st) rfl rfl rfl hout' hlk
  refine ⟨_, st1, .threw x, hrun, hend, ⟨hW, locs, hsm.mono hc hs, g5.2.2⟩, g5.F hT, .inr C, ad, w, q, ⟨x, ce, rfl, ?_, hcv, hcl⟩, g1, g2, ?_, g4, g6⟩
  · show T.heap[x]? = some ce
    rw [hT]; exact hce
  · show va_P D tk_cl (tk_m dA ad w) T.heap
    rw [hT]; exact g3
end TKC
end
section
/-! ===== the three invocations ===== -/
def tk_ML (own : String) (idx : Nat) (y : MethodName) : Prop := Cond.methodLink own idx y ∈ tk_tbl ∨ ∃ host, Cond.methodLinkNest own idx y host ∈ tk_tbl
/-- a callee, by its tables' words: its code word, maxLocals, number of parameters -/
def tk_Ca (y : MethodName) (cw : Cond) (nL n : Nat) : Prop := tk_isC cw y nL ∧ cw ∈ tk_tbl ∧ Cond.initialized y.cls ∈ tk_tbl ∧ nL ≤ 40 ∧ (y.cls ≠ "java/lang/invoke/MethodHandle" ∧ y.cls ≠ "java/lang/invoke/VarHandle") ∧ (parseMethodDescriptor y.desc).map (fun d => d.parameters.length) = some n
def tk_CS (y : MethodName) (cw : Cond) (nL n : Nat) : Prop := tk_Ca y cw nL n ∧ Cond.static y ∈ tk_tbl
def tk_CV (y : MethodName) (cw : Cond) (nL n : Nat) : Prop := tk_Ca y cw nL n ∧ Cond.instanceMethod y ∈ tk_tbl ∧ Cond.selects y.cls y y ∈ tk_tbl
def tk_CI (y : MethodName) (cw : Cond) (nL n : Nat) : Prop := tk_Ca y cw nL n ∧ Cond.instanceMethod y ∈ tk_tbl ∧ y.name = "<init>" ∧ ∃ cc, cw = .code y cc nL none
theorem tk_Ca.len {y : MethodName} {cw : Cond} {nL n : Nat} (h : tk_Ca y cw nL n) : ∀ sig, parseMethodDescriptor y.desc = some sig → n = sig.parameters.length := by
  intro sig hs
  have h2 := h.2.2.2.2.2
  rw [hs] at h2
  exact (Option.some.inj h2).symm
section TKV
variable {y : MethodName} {cc : ByteArray} {nL : Nat} {rt : Option FieldType} {hh : List (Nat × Nat × Nat × Nat)} {d kc ks : Nat} {ro : Nat → Option (Nat × (Nat → Int32))} {cells slots : Nat} {Q : tk_R → tk_W → Prop} {pc : Nat} {lv : List (Option Value)} {rest : List Value} {w : tk_W}
variable {y' : MethodName} {cw : Cond} {nL' n' d' kc' ks' idx : Nat} {as st : List Value} {Q' : tk_R → tk_W → Prop}
theorem tk_callS (hd : decode cc pc = .ok (.invokestatic idx, 3)) (hl : tk_ML y.cls idx y') (hC : tk_CS y' cw nL' n') (hM : tk_M y' cw d' kc' ks' as w Q') (hdd : d' < d) (hkc : cells + kc' ≤ kc) (hks : slots + ks' ≤ ks) (hrest : (rest.map fun v => v.category).sum ≤ 8) (hn : as.length = n') (hst : as.reverse ++ rest = st)
    (hkp : ∀ r w', Q' r w' → tk_kps w.length w'.length lv rest)
    (kr : ∀ r w', Q' (.inl r) w' → tk_T y cc nL rt hh d kc ks ro (cells + kc') (slots + ks') Q (pc + 3) lv (r.toList ++ rest) w')
    (kx : ∀ C w', Q' (.inr C) w' → tk_X y cc nL rt hh d kc ks ro (cells + kc') (slots + ks') Q pc lv C w') : tk_T y cc nL rt hh d kc ks ro cells slots Q pc lv st w := by
  refine tk_call hd hM hC.1.1 hC.1.2.1 hC.1.2.2.1 hdd hC.1.2.2.2.1 hkc hks hrest ?_ hkp kr kx
  intro p l e s m args below meth c D dA A ad0 I ad H locs ls g3 hsz T hT X
  obtain ⟨hx, hb, hml, hr', hlk, hnm, hown, hex, hts, hK, hA, hTh, hns, hst0, hro⟩ := id I
  obtain ⟨mk, methM, cM, hnamed, hmethM, -, -, hsigM⟩ := hC.1.1 #[] s (hts _ hC.1.2.1 #[])
  have hstatic : methM.isStatic = true := Cond.static_spec hnamed hmethM (hts _ hC.2 #[])
  obtain ⟨kP, hkP, -⟩ := className_of_methodNamed hnamed
  have hinitP : kP.init = .initialized := Cond.initialized_spec (findClass_of_methodNamed hnamed) hkP (hts _ hC.1.2.2.1 #[])
  have hlen : (as.map (tk_v ad)).length = methM.sig.parameters.length := by rw [List.length_map, hn]; exact hC.1.len _ hsigM
  have hstk : st.map (tk_v ad) = (as.map (tk_v ad)).reverse ++ rest.map (tk_v ad) := by rw [← hst, List.map_append, List.map_reverse]
  rcases hl with hl | ⟨host, hl⟩
  · obtain ⟨vm₁, X₁, hstep₁⟩ := X.invokestatic hx hown (hts _ hl args) hnamed hmethM hstatic hkP hinitP hC.1.2.2.2.2.1 (g := F0 m pc ls (st.map (tk_v ad))) rfl (argsL := as.map (tk_v ad)) (rest := rest.map (tk_v ad)) hlen hstk (by rw [hb]; exact hd)
    exact ⟨mk, vm₁, X₁, hnamed, fun target h => hstep₁ _ fun acts => by rw [doInvoke_state]; exact h⟩
  · obtain ⟨vm₁, X₁, hstep₁⟩ := X.invokestaticNest hx hown (hts _ hl args) hnamed hmethM hstatic hkP hinitP hC.1.2.2.2.2.1 (g := F0 m pc ls (st.map (tk_v ad))) rfl (argsL := as.map (tk_v ad)) (rest := rest.map (tk_v ad)) hlen hstk (by rw [hb]; exact hd)
    exact ⟨mk, vm₁, X₁, hnamed, fun target h => hstep₁ _ fun acts => by rw [doInvoke_state]; exact h⟩
theorem tk_callV {b ci : Nat} {fs : List Value} {q : vw_C} (hd : decode cc pc = .ok (.invokevirtual idx, 3)) (hl : tk_ML y.cls idx y') (hC : tk_CV y' cw nL' n') (hw : w[b]? = some (.inr (ci, fs))) (hq : tk_cl[ci]? = some q) (hq1 : q.1 = y'.cls) (hM : tk_M y' cw d' kc' ks' (.ref b :: as) w Q') (hdd : d' < d) (hkc : cells + kc' ≤ kc) (hks : slots + ks' ≤ ks) (hrest : (rest.map fun v => v.category).sum ≤ 8) (hn : as.length = n') (hst : as.reverse ++ .ref b :: rest = st)
    (hkp : ∀ r w', Q' r w' → tk_kps w.length w'.length lv rest)
    (kr : ∀ r w', Q' (.inl r) w' → tk_T y cc nL rt hh d kc ks ro (cells + kc') (slots + ks') Q (pc + 3) lv (r.toList ++ rest) w')
    (kx : ∀ C w', Q' (.inr C) w' → tk_X y cc nL rt hh d kc ks ro (cells + kc') (slots + ks') Q pc lv C w') : tk_T y cc nL rt hh d kc ks ro cells slots Q pc lv st w := by
  refine tk_call hd hM hC.1.1 hC.1.2.1 hC.1.2.2.1 hdd hC.1.2.2.2.1 hkc hks hrest ?_ hkp kr kx
  intro p l e s m args below meth c D dA A ad0 I ad H locs ls g3 hsz T hT X
  obtain ⟨hx, hb, hml, hr', hlk, hnm, hown, hex, hts, hK, hA, hTh, hns, hst0, hro⟩ := id I
  obtain ⟨mk, methM, hnamed, hmethM, hstM, habM⟩ := Cond.instanceMethod_spec (hts _ hC.2.1 args)
  obtain ⟨mk', methM', cM, hnamed', hmethM', -, -, hsigM⟩ := hC.1.1 #[] s (hts _ hC.1.2.1 #[])
  cases hnamed.symm.trans hnamed'
  cases hmethM.symm.trans hmethM'
  obtain ⟨cellB, hcB, hoB, hclB⟩ := va_recv hK g3 hq (tk_m_get hw)
  obtain ⟨c2, r2, m2, q1, q2, q3, q4, kP, hkP, hkPi⟩ := Cond.selects_spec (hts _ hC.2.2 args)
  rw [hq1] at hclB
  cases hclB.symm.trans q1
  cases (State.methodFound?_of_named hnamed hC.1.2.2.2.2.1).symm.trans q2
  cases hnamed.symm.trans q3
  have hselP : selectMethod e.platform s.vm cellB.cls mk = .method mk := by rw [Launch.admits_selectMethod X.admits]; exact q4
  have hlen : (as.map (tk_v ad)).length = methM.sig.parameters.length := by rw [List.length_map, hn]; exact hC.1.len _ hsigM
  have hstk : st.map (tk_v ad) = (as.map (tk_v ad)).reverse ++ .ref (ad b) :: rest.map (tk_v ad) := by rw [← hst, List.map_append, List.map_reverse]; rfl
  have hcT : T.heap[ad b]? = some cellB := by rw [hT]; exact hcB
  have hne : ∀ z, cellB.vm ≠ .statics z := fun z h => by rw [h] at hoB; cases hoB
  rcases hl with hl | ⟨host, hl⟩
  · obtain ⟨vm₁, X₁, hstep₁⟩ := X.invokevirtual hx hown (hts _ hl args) hnamed hmethM hstM hkP hkPi hC.1.2.2.2.2.1 (a := ad b) (cell := cellB) hcT hne hselP hmethM habM hkP hkPi (g := F0 m pc ls (st.map (tk_v ad))) rfl (argsL := as.map (tk_v ad)) (rest := rest.map (tk_v ad)) hlen hstk (by rw [hb]; exact hd)
    exact ⟨mk, vm₁, X₁, hnamed, fun target h => hstep₁ _ fun acts => by rw [doInvoke_state]; exact h⟩
  · obtain ⟨vm₁, X₁, hstep₁⟩ := X.invokevirtualNest hx hown (hts _ hl args) hnamed hmethM hstM hkP hkPi hC.1.2.2.2.2.1 (a := ad b) (cell := cellB) hcT hne hselP hmethM habM hkP hkPi (g := F0 m pc ls (st.map (tk_v ad))) rfl (argsL := as.map (tk_v ad)) (rest := rest.map (tk_v ad)) hlen hstk (by rw [hb]; exact hd)
    exact ⟨mk, vm₁, X₁, hnamed, fun target h => hstep₁ _ fun acts => by rw [doInvoke_state]; exact h⟩
theorem tk_callI {b : Nat} (hd : decode cc pc = .ok (.invokespecial idx, 3)) (hl : tk_ML y.cls idx y') (hC : tk_CI y' cw nL' n') (hM : tk_M y' cw d' kc' ks' (.ref b :: as) w Q') (hdd : d' < d) (hkc : cells + kc' ≤ kc) (hks : slots + ks' ≤ ks) (hrest : (rest.map fun v => v.category).sum ≤ 8) (hn : as.length = n') (hst : as.reverse ++ .ref b :: rest = st)
    (hkp : ∀ r w', Q' r w' → tk_kps w.length w'.length lv rest)
    (kr : ∀ r w', Q' (.inl r) w' → tk_T y cc nL rt hh d kc ks ro (cells + kc') (slots + ks') Q (pc + 3) lv (r.toList ++ rest) w')
    (kx : ∀ C w', Q' (.inr C) w' → tk_X y cc nL rt hh d kc ks ro (cells + kc') (slots + ks') Q pc lv C w') : tk_T y cc nL rt hh d kc ks ro cells slots Q pc lv st w := by
  refine tk_call hd hM hC.1.1 hC.1.2.1 hC.1.2.2.1 hdd hC.1.2.2.2.1 hkc hks hrest ?_ hkp kr kx
  intro p l e s m args below meth c D dA A ad0 I ad H locs ls g3 hsz T hT X
  obtain ⟨hx, hb, hml, hr', hlk, hnm, hown, hex, hts, hK, hA, hTh, hns, hst0, hro⟩ := id I
  have hpl : e.platform.magicAccessors = ({} : Platform).magicAccessors := by rw [X.admits.platform]
  obtain ⟨hCa, hin, hyn, cc', rfl⟩ := hC
  have hlen : ∀ sig, parseMethodDescriptor y'.desc = some sig → (as.map (tk_v ad)).length = sig.parameters.length := fun sig hs => by rw [List.length_map, hn]; exact hCa.len _ hs
  have hstk : st.map (tk_v ad) = (as.map (tk_v ad)).reverse ++ .ref (ad b) :: rest.map (tk_v ad) := by rw [← hst, List.map_append, List.map_reverse]; rfl
  rcases hl with hl | ⟨host, hl⟩
  · obtain ⟨mk, methM, cM, kP, vm₁, hnamed, hmethM, hcodeM, -, hlocalsM, -, hkP, -, hW₁, hstep₁⟩ := Steps.initColdArgs (e := e) X.here hx X.warmed hpl hown hyn hCa.2.2.2.2.1 (hts _ hl args) (hts _ hin args) (hts _ hCa.2.1 args) (f := F0 m pc ls (st.map (tk_v ad))) rfl hlen hstk (by rw [hb]; exact hd)
    exact ⟨mk, vm₁, X.noted hW₁, hnamed, fun target h => hstep₁ _ fun acts => by rw [doInvoke_state]; exact h⟩
  · obtain ⟨mk, methM, cM, kP, vm₁, hnamed, hmethM, hcodeM, -, hlocalsM, -, hkP, -, hW₁, hstep₁⟩ := Steps.initColdArgsNest (e := e) X.here hx X.warmed hpl hown hyn hCa.2.2.2.2.1 (hts _ hl args) (hts _ hin args) (hts _ hCa.2.1 args) (f := F0 m pc ls (st.map (tk_v ad))) rfl hlen hstk (by rw [hb]; exact hd)
    exact ⟨mk, vm₁, X.noted hW₁, hnamed, fun target h => hstep₁ _ fun acts => by rw [doInvoke_state]; exact h⟩
end TKV
end
section
/-! ===== throw new E("text") ===== -/
/-- a walk may be seen as one that begins at its present state -/
theorem tk_rebase {p : Program} {l : Launch} {e : Env} {R : Room} {s : State} {m : MethodId} {args : Array Value} {below : List Frame} {meth : Method} {c : Code} {T : State} {locs : List Loc} {cells slots : Nat} (X : Stand p l e R s m args below meth c T locs cells slots) {R' : Room} (hf : R'.frames ≤ R.frames) (hl : R'.locals ≤ R.locals) (hc : cells + R'.cells ≤ R.cells) (hs : slots + R'.slots ≤ R.slots) :
    Stand p l e R' ((T.setVm s.vm).setFrames (.invoking m args :: below)) m args below meth c T [] 0 0 := by
  have htop : (T.setVm s.vm).topJava?.isSome := X.here.top
  have hF : ((T.setVm s.vm).setFrames (.invoking m args :: below)).frames = .invoking m args :: below := State.frames_setFrames _ (State.cur_lt_of_top htop)
  obtain ⟨g₀, hg0⟩ := Option.isSome_iff_exists.mp htop
  obtain ⟨r, hr⟩ := State.topJava?_eq_some.mp hg0
  have hli : e.platform.stackLimits (T.setVm s.vm).me = e.platform.stackLimits s.me := X.limits
  have hby : (T.setVm s.vm).me.stackBytes = s.me.stackBytes := X.bytes
  have hroom : ((T.setVm s.vm).setFrames (.invoking m args :: below)).hasRoom e.platform R' = true := by
    have h := X.room
    have hU : ((T.setVm s.vm).setFrames (.invoking m args :: below)).localsInUse = s.localsInUse := by
      rw [State.localsInUse_invoking hF (meth := meth) (c := c) X.method X.code, State.localsInUse_invoking X.frames X.method X.code]
    simp only [State.hasRoom, Bool.and_eq_true, decide_eq_true_eq] at h ⊢
    obtain ⟨⟨⟨⟨h1, h2, h3, h4, h5, h6⟩, h7⟩, h8⟩, h9⟩ := h
    rw [X.frames, List.length_cons] at h2 h3
    have q1 := X.heapSize
    have q2 := X.used
    simp only [hF, hU, List.length_cons, State.stackLimits_setFrames, State.stackBytes_setFrames, hli, hby]
    refine ⟨⟨⟨⟨by omega, by omega, by omega, by omega, by omega, h6⟩, ?_⟩, ?_⟩, X.book⟩
    · show T.heap.size + R'.cells ≤ e.platform.maxCells
      omega
    · show T.slotsUsed + R'.slots ≤ e.platform.maxSlots
      omega
  have hnil : ((T.heap.toList.drop T.heap.size).map (·.slots.size)).sum = 0 := by
    rw [List.drop_eq_nil_of_le (Nat.le_of_eq Array.length_toList)]
    rfl
  have hsame : ((T.setVm s.vm).setFrames (.invoking m args :: below)).sameButNew (T.setVm ((T.setVm s.vm).setFrames (.invoking m args :: below)).vm) [] 0 0 := by
    refine ⟨?_, Nat.le_refl _, Nat.le_refl _, ?_, ?_, fun a c9 h9 => ⟨c9, h9, rfl, rfl, fun _ _ => rfl⟩⟩
    · obtain ⟨t, ht, -⟩ := State.frames_cons hr
      show T.setVm s.vm = { ((T.setVm s.vm).setFrames (.invoking m args :: below)).setFrames (T.setVm s.vm).frames with heap := T.heap, slotsUsed := T.slotsUsed }
      rw [State.setFrames_setFrames, State.setFrames_self ht]
      rfl
    · show T.slotsUsed = T.slotsUsed + ((T.heap.toList.drop T.heap.size).map (·.slots.size)).sum
      rw [hnil]
      rfl
    · show ((T.heap.toList.drop T.heap.size).map (·.slots.size)).sum ≤ 0
      rw [hnil]
      exact Nat.le_refl _
  exact ⟨X.admits, X.cas, X.clock, hF, hroom, X.hears, X.method, X.code, X.here, X.tail, X.warmed, by rw [State.stackLimits_setFrames]; rfl, by rw [State.stackBytes_setFrames]; rfl, hsame⟩
/-- where nothing old was written every old cell is as it was -/
theorem tk_frame {s U : State} {k n : Nat} (h : s.sameButNew ({ U with vm := s.vm } : State) [] k n) : s.heap.size ≤ U.heap.size ∧ ∀ q : Nat, q < s.heap.size → U.heap[q]? = s.heap[q]? := by
  obtain ⟨-, h2, -, -, -, h6⟩ := h
  refine ⟨h2, fun q hq => ?_⟩
  obtain ⟨c9, e1, e2, e3, e4⟩ := h6 q _ (Array.getElem?_eq_getElem hq)
  have hs : c9.slots = (s.heap[q]).slots := Array.ext_getElem? fun i => e4 i fun hm => nomatch hm
  have h9 : c9 = s.heap[q] := by
    rw [hs] at e2
    exact e2
  have e5 : U.heap[q]? = some c9 := e1
  rw [e5, h9, Array.getElem?_eq_getElem hq]
def tk_four : List Cond := [.isRef (.static Bundle.tN "UNASSIGNED_STACK" Bundle.steD), .isRef (.static Bundle.tN "SUPPRESSED_SENTINEL" Bundle.listD), .laysStatic Bundle.tN "UNASSIGNED_STACK" Bundle.steD, .laysStatic Bundle.tN "SUPPRESSED_SENTINEL" Bundle.listD]
theorem tk_isRef {C n f9 : String} {v : Value} {A : Nat → Prop} {s : State} {args : Array Value} (h : va_Z C n f9 v A s s.heap) (hv : v.isRef = true) : (Cond.isRef (.static C n f9)).before args s = true := by
  obtain ⟨cf, kf, fi, f, a, cell, h1, h2, h3, h4, h5, h6, h7, -⟩ := h
  have he : (Term.static C n f9).eval args s none [] s = some v := by
    simp [Term.eval, State.fieldNamed?, h1, h2, h4, h5, h6, h7]
  simp only [Cond.before, Cond.holds, Cond.value, he]
  cases v <;> simp_all [Value.isRef]
theorem tk_Th.words {A : Nat → Prop} {s : State} (h : tk_Th A s) (args : Array Value) : ∀ x ∈ tk_four, x.before args s = true := by
  obtain ⟨u, v, h1, h2, h3, h4, h5, h6⟩ := h
  intro x hx
  simp only [tk_four, List.mem_cons, List.not_mem_nil, or_false] at hx
  rcases hx with rfl | rfl | rfl | rfl
  · exact tk_isRef h3 h1
  · exact tk_isRef h4 h2
  · obtain ⟨c, k, i, f, a, cell, e1, e2, e3, e4, e5, e6, e7, e8, e9, -⟩ := h5
    exact Cond.laysStatic_of e1 e2 e3 e4 e5 e6 e7 e8 e9
  · obtain ⟨c, k, i, f, a, cell, e1, e2, e3, e4, e5, e6, e7, e8, e9, -⟩ := h6
    exact Cond.laysStatic_of e1 e2 e3 e4 e5 e6 e7 e8 e9
/-- the tables' words of 'new E("text")' at own's entries ik, is, ic; names: the classes between E and Throwable -/
def tk_Tw (own : String) (ik is ic : Nat) (E text : String) (names : List String) : Prop :=
  Bundle.fit E = true ∧ (∀ n ∈ names, Bundle.fit n = true) ∧ Cond.classLink own ik E ∈ tk_tbl ∧ Cond.initialized E ∈ tk_tbl ∧ Cond.stringRef own is text ∈ tk_tbl ∧ (∀ x ∈ Bundle.ownAtoms own ic E names, x ∈ tk_tbl ∨ x ∈ tk_four) ∧ names.length ≤ 4
section TKT
variable {y : MethodName} {cc : ByteArray} {nL : Nat} {rt : Option FieldType} {hh : List (Nat × Nat × Nat × Nat)} {d kc ks : Nat} {ro : Nat → Option (Nat × (Nat → Int32))} {cells slots : Nat} {Q : tk_R → tk_W → Prop} {pc : Nat} {lv : List (Option Value)} {rest : List Value} {w : tk_W}
set_option maxHeartbeats 2000000 in
theorem tk_throw {ik is ic : Nat} {E text : String} {names : List String} (d0 : decode cc pc = .ok (.new ik, 3)) (d3 : decode cc (pc + 3) = .ok (.dup, 1)) (d4 : decode cc (pc + 4) = .ok (.ldc is, 2)) (d6 : decode cc (pc + 6) = .ok (.invokespecial ic, 3)) (d9 : decode cc (pc + 9) = .ok (.athrow, 1))
    (hT9 : tk_Tw y.cls ik is ic E text names) (hout : ∀ x ∈ hh, (decide (x.1 ≤ pc + 9) && decide (pc + 9 < x.2.1)) = false) (hc : cells + 1 ≤ kc) (hs : slots + 6 ≤ ks) (hrest : (rest.map fun v => v.category).sum ≤ 8) (q : Q (.inr E) w) : tk_T y cc nL rt hh d kc ks ro cells slots Q pc lv rest w := by
  intro p l e s m args below meth c D dA A ad0 n0 I ad H locs ls g1 g2 g3 g4 g5 g6 g7
  obtain ⟨hx, hb, hml, hr', hlk, hnm, hown, hex, hts, hK, hA, hTh, hns, hst, hro⟩ := id I
  obtain ⟨hcls, hnames, hk, hini, hstr, hat, hnl⟩ := hT9
  intro T hT X
  have htr : e.platform.stackTraces = false := (show e.platform.stackTraces = l.stackTraces by rw [X.admits.platform]).trans hst
  have Y := tk_rebase X (R' := { frames := d + 8, locals := d * 60 + 240, cells := 1, slots := 6 }) (Nat.le_refl _) (Nat.le_refl _) hc hs
  obtain ⟨s', hs'⟩ : ∃ z, z = (T.setVm s.vm).setFrames (.invoking m args :: below) := ⟨_, rfl⟩
  rw [← hs'] at Y
  have hvm : s'.vm = s.vm := by rw [hs']; rfl
  have hhp : s'.heap = H := by rw [hs']; exact hT
  have hW0 : s.WarmedH s'.vm := by rw [hvm]; exact State.WarmedH.refl s
  have hts' : tk_ts s' := hts.warm hW0
  have hTh' : tk_Th (tk_A ad w H.size) s' := hTh.at hW0.alike hhp g5 g4 hA
  have h : ∀ x ∈ Bundle.ownAtoms y.cls ic E names, x.before args s' = true := fun x hx' => (hat x hx').elim (fun h1 => hts' x h1 args) (fun h1 => hTh'.words args x h1)
  have hown' : s'.vm.findClass y.cls = some m.cls := by rw [hvm]; exact hown
  have hins : (Cond.instantiable E 6).before args s' = true := h _ (by simp [Bundle.ownAtoms])
  obtain ⟨_, _, _, sa, _, _, _, _, _, hsa⟩ := Cond.stringRef_spec hown' (hts' _ hstr args)
  obtain ⟨vm₁, cX, kX, hfX, hkX, -, -, X₁, st1⟩ := Y.newCold hx (own := y.cls) (C := E) (index := ik) (n := 6) hown' (hts' _ hk args) hins (hts' _ hini args)
    (g := F0 m pc ls (rest.map (tk_v ad))) rfl (by rw [hb]; exact d0) (Nat.le_refl _) (Nat.le_refl _)
  generalize hT1 : (T.setVm vm₁).pushCell { cls := cX, slots := kX.instanceTypes.map defaultValue, vm := .none } = T1 at X₁ st1
  have hcat : (Value.ref T.heap.size).category = 1 := rfl
  have hcellA : T1.heap[T.heap.size]? = some (freshCell cX kX) := by rw [← hT1]; exact State.heap_pushCell_size _ _
  have d3' : decode c.code (pc + 3) = .ok (.dup, 1) := by rw [hb]; exact d3
  have hout' : ∀ z ∈ c.exceptionTable.toList, covers z (pc + 6 + 3) = false := by
    intro z hz
    exact hout (z.startPc, z.endPc, z.handlerPc, z.catchType) (by rw [← hex]; exact List.mem_map.mpr ⟨z, hz, rfl⟩)
  obtain ⟨U, hsteps, hrun, hend, hW, hsame, ce, hce, hO⟩ := X₁.ctorThrowS hx htr (own := y.cls) (cls := E) (names := names) (ic := ic) hown' hcls hnames h (fun x hx => nomatch hx) hfX hkX hcellA (by rw [hhp, hT]; exact Nat.le_refl _) (msg := .ref sa) rfl
    (g := { method := m, pc := pc + 6, locals := ls, stack := .ref sa :: .ref T.heap.size :: .ref T.heap.size :: rest.map (tk_v ad), locked := none }) rfl (g7.1.trans hml.symm) rfl rfl (rest := rest.map (tk_v ad)) rfl
    (by rw [hb]; exact d6) (by rw [hb]; exact d9) hout' (by show names.length + 3 < d + 8; omega) (by
      show 2 * 0 + ((Value.ref T.heap.size :: rest.map (tk_v ad)).map fun v => v.category).sum + (13 * (names.length + 1) + 42) ≤ d * 60 + 240
      rw [List.map_cons, List.sum_cons, hcat, tk_cs]; omega) hlk
  obtain ⟨f1, f2⟩ := tk_frame hsame
  rw [hhp] at f1 f2
  have hWs : s.WarmedH U.vm := State.WarmedH.trans hW0 hW
  have hcl : s.vm.findClass E = some ce.cls := by
    have h9 := hO.cls
    rw [hvm] at h9
    exact h9
  have hall : s.sameButNew ({ U with vm := s.vm } : State) locs kc ks := by
    subst hs'
    obtain ⟨e1, e2⟩ := hsame
    rw [State.setFrames_setFrames] at e1
    have h2 : (T.setVm s.vm).sameButNew ({ U with vm := s.vm } : State) [] (0 + 1) (0 + 6) := ⟨e1, e2⟩
    have h3 := X.same.trans h2
    rw [List.append_nil] at h3
    exact h3.mono hc hs
  have hP' : va_P D tk_cl (tk_m dA ad w) U.heap := fun k x hk9 => (g3 k x hk9).kept (f2 x.1 (g3 k x hk9).lt)
  refine ⟨U, ?_, .threw T.heap.size, hrun, hend, ⟨hWs, locs, hall, g5.2.2⟩, ⟨Nat.le_trans g5.1 f1, fun x h1 h2 => (f2 x (Nat.lt_of_lt_of_le h1 g5.1)).trans (g5.2.1 x h1 h2)⟩, .inr E, ad, w, q, ⟨T.heap.size, ce, rfl, hce, hO.vm, hcl⟩, g1, g2, hP', g4, g6⟩
  refine st1 _ ?_
  show Steps p.tables e below (T1.setTop { method := m, pc := pc + 3, locals := ls, stack := .ref T.heap.size :: rest.map (tk_v ad), locked := none }) _
  jvm_step X₁.here [X₁.here.top, hx, d3', Value.category]
  exact X₁.ldcString hx hown' (text := text) (a := sa) (hts' _ hstr args) hsa (g := { method := m, pc := pc + 4, locals := ls, stack := .ref T.heap.size :: .ref T.heap.size :: rest.map (tk_v ad), locked := none }) rfl (by rw [hb]; exact d4) _ hsteps
end TKT
/-! ===== an exception that is caught: the search through a table whose classes may have to be resolved first ===== -/
def tk_pass (pl : Platform) (s₀ : State) (k pc : Nat) (thrown : ClassId) (z : ExceptionTableEntry) : Prop := covers z pc = false ∨ (z.catchType ≠ 0 ∧ ∃ c, s₀.vm.ClassLinks pl k z.catchType c ∧ s₀.vm.assignable thrown c = false)
theorem tk_search {e : Env} {s₀ : State} {f : JFrame} {a : Addr} {cell : Cell} {x : ExceptionTableEntry} {rest : List ExceptionTableEntry} {c : ClassId} (hobj : ∀ k, cell.vm ≠ .statics k) (hk0 : ∃ k, s₀.vm.classes[cell.cls]? = some k)
    (hx : covers x f.pc = true) (h0 : x.catchType ≠ 0) (hl : s₀.vm.ClassLinks e.platform f.method.cls x.catchType c) (hfit : s₀.vm.assignable cell.cls c = true) :
    ∀ (pre : List ExceptionTableEntry) (S : State), s₀.WarmedH S.vm → S.heap[a]? = some cell → (∀ z ∈ pre, tk_pass e.platform s₀ f.method.cls f.pc cell.cls z) →
      ∃ vm', s₀.WarmedH vm' ∧ ∀ (Q : Handler → Pre) (E : CtlPost) (b : Bool) (acts : List Action), wp (findHandler.go f a (pre ++ x :: rest)) Q E e b acts S ↔ Q (.found x.handlerPc) b acts (S.setVm vm') := by
  obtain ⟨k0, hk0⟩ := hk0
  intro pre
  induction pre with
  | nil =>
    intro S hW hcell _
    obtain ⟨k0', hk0', -⟩ := hW.alike.2.2 _ _ hk0
    obtain ⟨dk, _, _, kt, hd, _, _, _, _, hkt, _, hopen⟩ := hl.here
    obtain ⟨kt', hkt', -⟩ := hW.alike.2.2 _ _ hkt
    have hlS := hW.classLinks hl
    refine ⟨_, hW.noted hd hopen (State.rightAt_cls hl), fun Q E b acts => ?_⟩
    rw [List.nil_append]
    have hx' : (decide (x.startPc ≤ f.pc) && decide (f.pc < x.endPc)) = true := hx
    obtain ⟨ha, ht⟩ := (resolveClass_links e.toSetting hlS).op (op := VmOp.resolveClass f.method.cls x.catchType) rfl
    have hal : S.vm.Alike (S.vm.noted f.method.cls x.catchType (.cls c)) := (Vm.Alike.refl S.vm).noted _ _ _
    obtain ⟨k1', hk1', -⟩ := hal.2.2 _ _ hk0'
    obtain ⟨k2', hk2', -⟩ := hal.2.2 _ _ hkt'
    have hf' : (S.vm.noted f.method.cls x.catchType (.cls c)).assignable cell.cls c = true := by rw [hal.assignable, hW.alike.assignable]; exact hfit
    simp [findHandler.go, hx', h0, ha, ht, hcell, hobj, hk1', hk2', hf', VmOp.dirties, VmOp.acts]
  | cons z zs ih =>
    intro S hW hcell hpass
    obtain ⟨k0', hk0', -⟩ := hW.alike.2.2 _ _ hk0
    have hrest : ∀ u ∈ zs, tk_pass e.platform s₀ f.method.cls f.pc cell.cls u := fun u hu => hpass u (List.mem_cons_of_mem _ hu)
    by_cases hcov : covers z f.pc = true
    · rcases hpass z (List.mem_cons_self ..) with h | ⟨hz0, c', hl', hno⟩
      · rw [h] at hcov; cases hcov
      · obtain ⟨dk, _, _, kt, hd, _, _, _, _, hkt, _, hopen⟩ := hl'.here
        obtain ⟨kt', hkt', -⟩ := hW.alike.2.2 _ _ hkt
        obtain ⟨vm', hW', hq⟩ := ih (S.setVm (S.vm.noted f.method.cls z.catchType (.cls c'))) (hW.noted hd hopen (State.rightAt_cls hl')) hcell hrest
        refine ⟨vm', hW', fun Q E b acts => ?_⟩
        have hlS := hW.classLinks hl'
        have hx' : (decide (z.startPc ≤ f.pc) && decide (f.pc < z.endPc)) = true := hcov
        obtain ⟨ha, ht⟩ := (resolveClass_links e.toSetting hlS).op (op := VmOp.resolveClass f.method.cls z.catchType) rfl
        have hal : S.vm.Alike (S.vm.noted f.method.cls z.catchType (.cls c')) := (Vm.Alike.refl S.vm).noted _ _ _
        obtain ⟨k1', hk1', -⟩ := hal.2.2 _ _ hk0'
        obtain ⟨k2', hk2', -⟩ := hal.2.2 _ _ hkt'
        have hf' : (S.vm.noted f.method.cls z.catchType (.cls c')).assignable cell.cls c' = false := by rw [hal.assignable, hW.alike.assignable]; exact hno
        have hone : wp (findHandler.go f a (z :: (zs ++ x :: rest))) Q E e b acts S ↔ wp (findHandler.go f a (zs ++ x :: rest)) Q E e b acts (S.setVm (S.vm.noted f.method.cls z.catchType (.cls c'))) := by
          simp [findHandler.go, hx', hz0, ha, ht, hcell, hobj, hk1', hk2', hf', VmOp.dirties, VmOp.acts]
        rw [List.cons_append, hone]
        exact hq Q E b acts
    · obtain ⟨vm', hW', hq⟩ := ih S hW hcell hrest
      exact ⟨vm', hW', fun Q E b acts => by
        rw [List.cons_append, W.findHandler_go_skip (by simpa using hcov)]
        exact hq Q E b acts⟩
theorem tk_caught {p : Program} {l : Launch} {e : Env} {R : Room} {s : State} {m : MethodId} {args : Array Value} {below : List Frame} {meth : Method} {c : Code} {T : State} {locs : List Loc} {cells slots : Nat} (X : Stand p l e R s m args below meth c T locs cells slots) (a : Addr) {g : JFrame} (hg : g.method = m) {cell : Cell} (hcell : T.heap[a]? = some cell) (hobj : ∀ k, cell.vm ≠ .statics k)
    (hk0 : ∃ k, s.vm.classes[cell.cls]? = some k) (pre : List ExceptionTableEntry) (x : ExceptionTableEntry) (rest : List ExceptionTableEntry) (hsplit : c.exceptionTable.toList = pre ++ x :: rest) (hpass : ∀ z ∈ pre, tk_pass e.platform s m.cls g.pc cell.cls z) (hx : covers x g.pc = true) (h0 : x.catchType ≠ 0) {k : ClassId} (hl : s.vm.ClassLinks e.platform m.cls x.catchType k) (hfit : s.vm.assignable cell.cls k = true) :
    ∃ vm', Stand p l e R s m args below meth c (T.setVm vm') locs cells slots ∧ ∀ target, Steps p.tables e below ((T.setVm vm').setTop { g with pc := x.handlerPc, stack := [.ref a] }) target → Steps p.tables e below ((T.setTop g).pushFrame (.throwing a)) target := by
  subst hg
  obtain ⟨vm', hW', hq⟩ := tk_search (e := e) (f := g) (a := a) (rest := rest) hobj hk0 hx h0 hl hfit pre ((T.setTop g).pushFrame (.throwing a)) (by exact X.warmed) (by exact hcell) hpass
  refine ⟨vm', X.noted hW', fun target hrest => ?_⟩
  have hfind : ∀ (Q : Handler → Pre) (E : CtlPost) (b : Bool) (acts : List Action), wp (findHandler g a) Q E e b acts ((T.setTop g).pushFrame (.throwing a)) ↔ Q (.found x.handlerPc) b acts (((T.setTop g).pushFrame (.throwing a)).setVm vm') := fun Q E b acts => by
    rw [W.findHandler_eq (s := (T.setTop g).pushFrame (.throwing a)) (meth := meth) (code := c) X.method' X.code, hsplit]
    exact hq Q E b acts
  have hstep : ∀ r : List Frame, (stepThrowing e ((T.setTop g).pushFrame (.throwing a)) a (.java g :: r)).Is ((((T.setTop g).pushFrame (.throwing a)).setVm vm').setFrames (.java { g with pc := x.handlerPc, stack := [.ref a] } :: r)) [] := by
    intro r
    simp only [stepThrowing, searchFrame, vmDo]
    generalize hr : Sem.go _ e false [] ((T.setTop g).pushFrame (.throwing a)) = res
    obtain ⟨as, rfl, ha⟩ := Sem.eq_ok_of hr (a := Handler.found x.handlerPc) (s' := ((T.setTop g).pushFrame (.throwing a)).setVm vm') (acts' := []) (by simp [hfind _ _ _ _])
    exact ⟨rfl, ha⟩
  obtain ⟨hgo, hw⟩ := X.here.throwing a
  refine Steps.head hgo hw ?_
  rw [stepThread_throwing (frames_entered X.here.top _), (hstep _).1]
  obtain ⟨g₀, hg0⟩ := Option.isSome_iff_exists.mp X.here.top
  obtain ⟨r, hr⟩ := State.topJava?_eq_some.mp hg0
  have hr' : (T.setVm vm').frames = .java g₀ :: r := hr
  have hcomm : ∀ (u : State) (F G : List Frame), ((u.setFrames F).setVm vm').setFrames G = (u.setVm vm').setFrames G := by
    intro u F G
    have h1 : (u.setFrames F).setVm vm' = (u.setVm vm').setFrames F := rfl
    rw [h1, State.setFrames_setFrames]
  rw [State.setTop_of_frames _ hr'] at hrest
  rw [hr, List.tail_cons, State.pushFrame, hcomm, State.setTop_of_frames _ hr, hcomm]
  exact hrest
/-- a row of the table that lets an exception of the class C by -/
def tk_by (own : String) (pc : Nat) (C : String) (z : Nat × Nat × Nat × Nat) : Prop := (decide (z.1 ≤ pc) && decide (pc < z.2.1)) = false ∨ (z.2.2.2 ≠ 0 ∧ ∃ nm : String, Cond.classLink own z.2.2.2 nm ∈ tk_tbl ∧ Cond.not (.castable C nm) ∈ tk_tbl)
theorem tk_L.st0 {ad : Nat → Nat} {ls : Array Slot} {nL i x : Nat} {lv : List (Option Value)} (hp : tk_pc lv i = true)
    (h : lv_has ls nL ((i, .ref x) :: (tk_pr ad lv).filter (fun q => !(q.1 == i) && !(q.1 + 1 == i && q.2.category == 2)))) : tk_L ad ls nL (lv.set i none) := by
  refine ⟨h.1, h.2.1, fun j u hj => ?_⟩
  rw [List.getElem?_set] at hj
  by_cases e : i = j
  · subst e
    rw [if_pos rfl] at hj
    split at hj <;> cases hj
  · rw [if_neg e] at hj
    refine h.2.2 (j, tk_v ad u) (List.mem_cons_of_mem _ (List.mem_filter.mpr ⟨tk_pr_in hj, ?_⟩))
    have h1 : (j == i) = false := by simpa using Ne.symm e
    by_cases h2 : j + 1 = i
    · have hc := tk_pc_at hp h2 hj
      simp [h1, tk_cat, hc]
    · simp [h1, h2]
section TKK
variable {y : MethodName} {cc : ByteArray} {nL : Nat} {rt : Option FieldType} {hh : List (Nat × Nat × Nat × Nat)} {d kc ks : Nat} {ro : Nat → Option (Nat × (Nat → Int32))} {cells slots : Nat} {Q : tk_R → tk_W → Prop} {pc : Nat} {lv : List (Option Value)} {rest : List Value} {w : tk_W}
/-- caught by the row (a0, a1, hp, ct); the handler begins with the store of the exception -/
theorem tk_X.catch {C nm : String} {pre suf : List (Nat × Nat × Nat × Nat)} {a0 a1 hp ct i len : Nat} (hsp : hh = pre ++ (a0, a1, hp, ct) :: suf) (hby : ∀ z ∈ pre, tk_by y.cls pc C z) (hcv : (decide (a0 ≤ pc) && decide (pc < a1)) = true) (hct : ct ≠ 0) (hlk9 : Cond.classLink y.cls ct nm ∈ tk_tbl) (hcast : Cond.castable C nm ∈ tk_tbl)
    (hst9 : (∃ k : Fin 4, decode cc hp = .ok (.astore_n k, 1) ∧ (k : Nat) = i ∧ len = 1) ∨ (decode cc hp = .ok (.astore i, 2) ∧ len = 2)) (hpc : tk_pc lv i = true) (hi : i < nL)
    (kk : tk_T y cc nL rt hh d kc ks ro cells slots Q (hp + len) (lv.set i none) [] w) : tk_X y cc nL rt hh d kc ks ro cells slots Q pc lv C w := by
  intro p l e s m args below meth c D dA A ad0 n0 I ad H locs ls st g1 g2 g3 g4 g5 g6 g7 x ce hce hcv9 hcl T hT X
  obtain ⟨hx, hb, hml, hr', hlk, hnm, hown, hex, hts, hK, hA, hTh, hns, hst, hro⟩ := id I
  have hpl : e.platform.magicAccessors = ({} : Platform).magicAccessors := by rw [X.admits.platform]
  obtain ⟨c3, c4, hc3, hc4, hasg⟩ := Cond.castable_spec (hts _ hcast args)
  cases Option.some.inj (hc3.symm.trans hcl)
  obtain ⟨c5, hc5, hcl5⟩ := Cond.classLink_spec hown (hts _ hlk9 args) e.platform hpl
  cases Option.some.inj (hc4.symm.trans hc5)
  rw [hsp] at hex
  obtain ⟨tp, ts, htab, htp, hts9⟩ := List.map_eq_append_iff.mp hex
  obtain ⟨z, zs, rfl, hz, hzs⟩ := List.map_eq_cons_iff.mp hts9
  have e1 : z.startPc = a0 := congrArg (·.1) hz
  have e2 : z.endPc = a1 := congrArg (·.2.1) hz
  have e3 : z.handlerPc = hp := congrArg (·.2.2.1) hz
  have e4 : z.catchType = ct := congrArg (·.2.2.2) hz
  have hpass : ∀ u ∈ tp, tk_pass e.platform s m.cls (F0 m pc ls st).pc ce.cls u := by
    intro u hu
    rcases hby (u.startPc, u.endPc, u.handlerPc, u.catchType) (by rw [← htp]; exact List.mem_map.mpr ⟨u, hu, rfl⟩) with h | ⟨h0, n9, hl9, hno⟩
    · exact Or.inl h
    · obtain ⟨c6, hc6, hcl6⟩ := Cond.classLink_spec hown (hts _ hl9 args) e.platform hpl
      have hv := Cond.holds_not_iff.mp (hts _ hno args)
      simp only [Cond.value, hcl, hc6] at hv
      exact Or.inr ⟨h0, c6, hcl6, Option.some.inj hv⟩
  obtain ⟨vm', X', hgo⟩ := tk_caught X x (g := F0 m pc ls st) rfl (cell := ce) (by rw [hT]; exact hce) (fun k h => by rw [hcv9] at h; cases h) (by obtain ⟨k9, h9, -⟩ := Vm.findClass_spec hcl; exact ⟨k9, h9⟩) tp z zs htab hpass (by show (decide (z.startPc ≤ pc) && decide (pc < z.endPc)) = true; rw [e1, e2]; exact hcv) (by rw [e4]; exact hct) (by rw [e4]; exact hcl5) hasg
  have hW : W p l e (tk_rm d kc ks) s m args below meth c H locs cells slots (tk_Z below D dA A ad0 n0 s kc ks Q) (F0 m hp ls [.ref x]) := by
    rcases hst9 with ⟨k, hd9, hk9, rfl⟩ | ⟨hd9, rfl⟩
    · exact lv_astore_n hx hb hd9 hk9 g7.has hi rfl (fun ls' h' => kk p l e s m args below meth c D dA A ad0 n0 I ad H locs ls' g1 g2 g3 g4 g5 g6 (tk_L.st0 hpc h'))
    · exact lv_astore hx hb hd9 g7.has hi rfl (fun ls' h' => kk p l e s m args below meth c D dA A ad0 n0 I ad H locs ls' g1 g2 g3 g4 g5 g6 (tk_L.st0 hpc h'))
  obtain ⟨t, a9, b9⟩ := hW (T.setVm vm') hT X'
  refine ⟨t, hgo t ?_, b9⟩
  have : ({ F0 m pc ls st with pc := z.handlerPc, stack := [.ref x] } : JFrame) = F0 m hp ls [.ref x] := by rw [e3]
  rw [this]
  exact a9
end TKK
end
section
/-! ===== contracts that name their end ===== -/
def tk_det (r0 : tk_R) (w1 : tk_W) : tk_R → tk_W → Prop := fun r x => r = r0 ∧ x = w1
theorem tk_M.mono {y : MethodName} {cw : Cond} {d kc ks : Nat} {as : List Value} {w : tk_W} {Q Q' : tk_R → tk_W → Prop} (h : ∀ r x, Q' r x → Q r x) (k : tk_M y cw d kc ks as w Q') : tk_M y cw d kc ks as w Q := by
  intro l hl D dA ad p e ha hc hk s m args below hf happ hP hK
  obtain ⟨n, o, h1, h2, h3, h4, h5, r, ad', w', h6, h7⟩ := k l hl D dA ad p e ha hc hk s m args below hf happ hP hK
  exact ⟨n, o, h1, h2, h3, h4, h5, r, ad', w', h _ _ h6, h7⟩
section TKD
variable {y : MethodName} {cc : ByteArray} {nL : Nat} {rt : Option FieldType} {hh : List (Nat × Nat × Nat × Nat)} {d kc ks : Nat} {ro : Nat → Option (Nat × (Nat → Int32))} {cells slots : Nat} {Q : tk_R → tk_W → Prop} {pc : Nat} {lv : List (Option Value)} {rest : List Value} {w w1 : tk_W}
variable {y' : MethodName} {cw : Cond} {nL' n' d' kc' ks' idx : Nat} {as st : List Value} {Q' : tk_R → tk_W → Prop}
/-- a call that returns v, with the world w1 -/
theorem tk_callSr {v : Option Value} (hd : decode cc pc = .ok (.invokestatic idx, 3)) (hl : tk_ML y.cls idx y') (hC : tk_CS y' cw nL' n') (hM : tk_M y' cw d' kc' ks' as w (tk_det (.inl v) w1)) (hw : w1.length = w.length) (hdd : d' < d) (hkc : cells + kc' ≤ kc) (hks : slots + ks' ≤ ks) (hrest : (rest.map fun v => v.category).sum ≤ 8) (hn : as.length = n') (hst : as.reverse ++ rest = st)
    (kr : tk_T y cc nL rt hh d kc ks ro (cells + kc') (slots + ks') Q (pc + 3) lv (v.toList ++ rest) w1) : tk_T y cc nL rt hh d kc ks ro cells slots Q pc lv st w := by
  refine tk_callS hd hl hC hM hdd hkc hks hrest hn hst ?_ ?_ ?_
  · rintro r x ⟨-, rfl⟩
    exact tk_kps_same hw
  · rintro r x ⟨h1, rfl⟩
    cases h1
    exact kr
  · rintro C x ⟨h1, -⟩
    cases h1
/-- a call that throws, where no handler stands -/
theorem tk_callSx {C : String} (hd : decode cc pc = .ok (.invokestatic idx, 3)) (hl : tk_ML y.cls idx y') (hC : tk_CS y' cw nL' n') (hM : tk_M y' cw d' kc' ks' as w (tk_det (.inr C) w1)) (hw : w1.length = w.length) (hdd : d' < d) (hkc : cells + kc' ≤ kc) (hks : slots + ks' ≤ ks) (hrest : (rest.map fun v => v.category).sum ≤ 8) (hn : as.length = n') (hst : as.reverse ++ rest = st)
    (hout : ∀ x ∈ hh, (decide (x.1 ≤ pc) && decide (pc < x.2.1)) = false) (q : Q (.inr C) w1) : tk_T y cc nL rt hh d kc ks ro cells slots Q pc lv st w := by
  refine tk_callS hd hl hC hM hdd hkc hks hrest hn hst ?_ ?_ ?_
  · rintro r x ⟨-, rfl⟩
    exact tk_kps_same hw
  · rintro r x ⟨h1, -⟩
    cases h1
  · rintro C x ⟨h1, rfl⟩
    cases h1
    exact tk_X.out hout hkc hks q
theorem tk_callVr {b ci : Nat} {fs : List Value} {q : vw_C} {v : Option Value} (hd : decode cc pc = .ok (.invokevirtual idx, 3)) (hl : tk_ML y.cls idx y') (hC : tk_CV y' cw nL' n') (hb : w[b]? = some (.inr (ci, fs))) (hq : tk_cl[ci]? = some q) (hq1 : q.1 = y'.cls) (hM : tk_M y' cw d' kc' ks' (.ref b :: as) w (tk_det (.inl v) w1)) (hw : w1.length = w.length) (hdd : d' < d) (hkc : cells + kc' ≤ kc) (hks : slots + ks' ≤ ks) (hrest : (rest.map fun v => v.category).sum ≤ 8) (hn : as.length = n') (hst : as.reverse ++ .ref b :: rest = st)
    (kr : tk_T y cc nL rt hh d kc ks ro (cells + kc') (slots + ks') Q (pc + 3) lv (v.toList ++ rest) w1) : tk_T y cc nL rt hh d kc ks ro cells slots Q pc lv st w := by
  refine tk_callV hd hl hC hb hq hq1 hM hdd hkc hks hrest hn hst ?_ ?_ ?_
  · rintro r x ⟨-, rfl⟩
    exact tk_kps_same hw
  · rintro r x ⟨h1, rfl⟩
    cases h1
    exact kr
  · rintro C x ⟨h1, -⟩
    cases h1
/-- a call that returns, with an answer and a world that Q' allows; as long as it was -/
theorem tk_callVq {b ci : Nat} {fs : List Value} {q : vw_C} (hd : decode cc pc = .ok (.invokevirtual idx, 3)) (hl : tk_ML y.cls idx y') (hC : tk_CV y' cw nL' n') (hb : w[b]? = some (.inr (ci, fs))) (hq : tk_cl[ci]? = some q) (hq1 : q.1 = y'.cls) (hM : tk_M y' cw d' kc' ks' (.ref b :: as) w Q') (hw : ∀ r x, Q' r x → x.length = w.length ∧ ∃ v, r = .inl v) (hdd : d' < d) (hkc : cells + kc' ≤ kc) (hks : slots + ks' ≤ ks) (hrest : (rest.map fun v => v.category).sum ≤ 8) (hn : as.length = n') (hst : as.reverse ++ .ref b :: rest = st)
    (kr : ∀ r x, Q' (.inl r) x → tk_T y cc nL rt hh d kc ks ro (cells + kc') (slots + ks') Q (pc + 3) lv (r.toList ++ rest) x) : tk_T y cc nL rt hh d kc ks ro cells slots Q pc lv st w := by
  refine tk_callV hd hl hC hb hq hq1 hM hdd hkc hks hrest hn hst ?_ kr ?_
  · intro r x h
    exact tk_kps_same (hw r x h).1
  · intro C x h
    obtain ⟨-, v, hv⟩ := hw _ _ h
    cases hv
end TKD
end
section
theorem i_CP : ∀ w ∈ u_ws R_CP F_CP 4, w ∈ tk_tbl := tk_all (by decide +kernel) (by decide +kernel)
theorem p_CP_0 : tk_FP 0 0 (.object "ChargePlans$Goods") true := ⟨R_CP, F_CP, 4, t_CP, rfl, t_CP_ok, n_CP, rfl, by decide +kernel, rfl⟩
theorem p_CP_1 : tk_FP 0 1 (.object "ChargePlans$Heats") true := ⟨R_CP, F_CP, 4, t_CP, rfl, t_CP_ok, n_CP, rfl, by decide +kernel, rfl⟩
theorem p_CP_2 : tk_FP 0 2 (.object "ChargePlans$Planning") true := ⟨R_CP, F_CP, 4, t_CP, rfl, t_CP_ok, n_CP, rfl, by decide +kernel, rfl⟩
theorem p_CP_3 : tk_FP 0 3 (.object "ChargePlans$Clashing") true := ⟨R_CP, F_CP, 4, t_CP, rfl, t_CP_ok, n_CP, rfl, by decide +kernel, rfl⟩
theorem i_G : ∀ w ∈ u_ws R_G F_G 7, w ∈ tk_tbl := tk_all (by decide +kernel) (by decide +kernel)
theorem p_G_0 : tk_FP 1 0 (.int) false := ⟨R_G, F_G, 7, t_G, rfl, t_G_ok, n_G, rfl, by decide +kernel, rfl⟩
theorem p_G_1 : tk_FP 1 1 (.array .int) true := ⟨R_G, F_G, 7, t_G, rfl, t_G_ok, n_G, rfl, by decide +kernel, rfl⟩
theorem p_G_2 : tk_FP 1 2 (.array .int) true := ⟨R_G, F_G, 7, t_G, rfl, t_G_ok, n_G, rfl, by decide +kernel, rfl⟩
theorem p_G_3 : tk_FP 1 3 (.array .int) true := ⟨R_G, F_G, 7, t_G, rfl, t_G_ok, n_G, rfl, by decide +kernel, rfl⟩
theorem p_G_4 : tk_FP 1 4 (.array .int) true := ⟨R_G, F_G, 7, t_G, rfl, t_G_ok, n_G, rfl, by decide +kernel, rfl⟩
theorem p_G_5 : tk_FP 1 5 (.array .int) true := ⟨R_G, F_G, 7, t_G, rfl, t_G_ok, n_G, rfl, by decide +kernel, rfl⟩
theorem p_G_6 : tk_FP 1 6 (.array .int) true := ⟨R_G, F_G, 7, t_G, rfl, t_G_ok, n_G, rfl, by decide +kernel, rfl⟩
theorem i_H : ∀ w ∈ u_ws R_H F_H 8, w ∈ tk_tbl := tk_all (by decide +kernel) (by decide +kernel)
theorem p_H_0 : tk_FP 2 0 (.int) false := ⟨R_H, F_H, 8, t_H, rfl, t_H_ok, n_H, rfl, by decide +kernel, rfl⟩
theorem p_H_1 : tk_FP 2 1 (.array .int) true := ⟨R_H, F_H, 8, t_H, rfl, t_H_ok, n_H, rfl, by decide +kernel, rfl⟩
theorem p_H_2 : tk_FP 2 2 (.array .int) true := ⟨R_H, F_H, 8, t_H, rfl, t_H_ok, n_H, rfl, by decide +kernel, rfl⟩
theorem p_H_3 : tk_FP 2 3 (.array .int) true := ⟨R_H, F_H, 8, t_H, rfl, t_H_ok, n_H, rfl, by decide +kernel, rfl⟩
theorem p_H_4 : tk_FP 2 4 (.array .int) true := ⟨R_H, F_H, 8, t_H, rfl, t_H_ok, n_H, rfl, by decide +kernel, rfl⟩
theorem p_H_5 : tk_FP 2 5 (.array .int) true := ⟨R_H, F_H, 8, t_H, rfl, t_H_ok, n_H, rfl, by decide +kernel, rfl⟩
theorem p_H_6 : tk_FP 2 6 (.array .int) true := ⟨R_H, F_H, 8, t_H, rfl, t_H_ok, n_H, rfl, by decide +kernel, rfl⟩
theorem p_H_7 : tk_FP 2 7 (.array .int) true := ⟨R_H, F_H, 8, t_H, rfl, t_H_ok, n_H, rfl, by decide +kernel, rfl⟩
theorem i_P : ∀ w ∈ u_ws R_P F_P 8, w ∈ tk_tbl := tk_all (by decide +kernel) (by decide +kernel)
theorem p_P_0 : tk_FP 3 0 (.object "ChargePlans$Sums") true := ⟨R_P, F_P, 8, t_P, rfl, t_P_ok, n_P, rfl, by decide +kernel, rfl⟩
theorem p_P_1 : tk_FP 3 1 (.array .int) true := ⟨R_P, F_P, 8, t_P, rfl, t_P_ok, n_P, rfl, by decide +kernel, rfl⟩
theorem p_P_2 : tk_FP 3 2 (.array .int) true := ⟨R_P, F_P, 8, t_P, rfl, t_P_ok, n_P, rfl, by decide +kernel, rfl⟩
theorem p_P_3 : tk_FP 3 3 (.int) false := ⟨R_P, F_P, 8, t_P, rfl, t_P_ok, n_P, rfl, by decide +kernel, rfl⟩
theorem p_P_4 : tk_FP 3 4 (.int) false := ⟨R_P, F_P, 8, t_P, rfl, t_P_ok, n_P, rfl, by decide +kernel, rfl⟩
theorem p_P_5 : tk_FP 3 5 (.int) false := ⟨R_P, F_P, 8, t_P, rfl, t_P_ok, n_P, rfl, by decide +kernel, rfl⟩
theorem p_P_6 : tk_FP 3 6 (.boolean) false := ⟨R_P, F_P, 8, t_P, rfl, t_P_ok, n_P, rfl, by decide +kernel, rfl⟩
theorem p_P_7 : tk_FP 3 7 (.boolean) false := ⟨R_P, F_P, 8, t_P, rfl, t_P_ok, n_P, rfl, by decide +kernel, rfl⟩
theorem i_S : ∀ w ∈ u_ws R_S F_S 4, w ∈ tk_tbl := tk_all (by decide +kernel) (by decide +kernel)
theorem p_S_0 : tk_FP 4 0 (.int) false := ⟨R_S, F_S, 4, t_S, rfl, t_S_ok, n_S, rfl, by decide +kernel, rfl⟩
theorem p_S_1 : tk_FP 4 1 (.array .int) true := ⟨R_S, F_S, 4, t_S, rfl, t_S_ok, n_S, rfl, by decide +kernel, rfl⟩
theorem p_S_2 : tk_FP 4 2 (.array .int) true := ⟨R_S, F_S, 4, t_S, rfl, t_S_ok, n_S, rfl, by decide +kernel, rfl⟩
theorem p_S_3 : tk_FP 4 3 (.array .int) true := ⟨R_S, F_S, 4, t_S, rfl, t_S_ok, n_S, rfl, by decide +kernel, rfl⟩
theorem i_C : ∀ w ∈ u_ws R_C F_C 3, w ∈ tk_tbl := tk_all (by decide +kernel) (by decide +kernel)
theorem p_C_0 : tk_FP 5 0 (.object "ChargePlans$Sums") true := ⟨R_C, F_C, 3, t_C, rfl, t_C_ok, n_C, rfl, by decide +kernel, rfl⟩
theorem p_C_1 : tk_FP 5 1 (.array .long) true := ⟨R_C, F_C, 3, t_C, rfl, t_C_ok, n_C, rfl, by decide +kernel, rfl⟩
theorem p_C_2 : tk_FP 5 2 (.boolean) false := ⟨R_C, F_C, 3, t_C, rfl, t_C_ok, n_C, rfl, by decide +kernel, rfl⟩
theorem i_M : ∀ w ∈ u_ws R_M F_M 21, w ∈ tk_tbl := tk_all (by decide +kernel) (by decide +kernel)
theorem p_M_0 : tk_FP 6 0 (.int) false := ⟨R_M, F_M, 21, t_M, rfl, t_M_ok, n_M, rfl, by decide +kernel, rfl⟩
theorem p_M_1 : tk_FP 6 1 (.int) false := ⟨R_M, F_M, 21, t_M, rfl, t_M_ok, n_M, rfl, by decide +kernel, rfl⟩
theorem p_M_2 : tk_FP 6 2 (.array .int) true := ⟨R_M, F_M, 21, t_M, rfl, t_M_ok, n_M, rfl, by decide +kernel, rfl⟩
theorem p_M_3 : tk_FP 6 3 (.array .int) true := ⟨R_M, F_M, 21, t_M, rfl, t_M_ok, n_M, rfl, by decide +kernel, rfl⟩
theorem p_M_4 : tk_FP 6 4 (.array .int) true := ⟨R_M, F_M, 21, t_M, rfl, t_M_ok, n_M, rfl, by decide +kernel, rfl⟩
theorem p_M_5 : tk_FP 6 5 (.array .int) true := ⟨R_M, F_M, 21, t_M, rfl, t_M_ok, n_M, rfl, by decide +kernel, rfl⟩
theorem p_M_6 : tk_FP 6 6 (.array .int) true := ⟨R_M, F_M, 21, t_M, rfl, t_M_ok, n_M, rfl, by decide +kernel, rfl⟩
theorem p_M_7 : tk_FP 6 7 (.array .int) true := ⟨R_M, F_M, 21, t_M, rfl, t_M_ok, n_M, rfl, by decide +kernel, rfl⟩
theorem p_M_8 : tk_FP 6 8 (.int) false := ⟨R_M, F_M, 21, t_M, rfl, t_M_ok, n_M, rfl, by decide +kernel, rfl⟩
theorem p_M_9 : tk_FP 6 9 (.array .int) true := ⟨R_M, F_M, 21, t_M, rfl, t_M_ok, n_M, rfl, by decide +kernel, rfl⟩
theorem p_M_10 : tk_FP 6 10 (.array .int) true := ⟨R_M, F_M, 21, t_M, rfl, t_M_ok, n_M, rfl, by decide +kernel, rfl⟩
theorem p_M_11 : tk_FP 6 11 (.array .int) true := ⟨R_M, F_M, 21, t_M, rfl, t_M_ok, n_M, rfl, by decide +kernel, rfl⟩
theorem p_M_12 : tk_FP 6 12 (.array .int) true := ⟨R_M, F_M, 21, t_M, rfl, t_M_ok, n_M, rfl, by decide +kernel, rfl⟩
theorem p_M_13 : tk_FP 6 13 (.array .int) true := ⟨R_M, F_M, 21, t_M, rfl, t_M_ok, n_M, rfl, by decide +kernel, rfl⟩
theorem p_M_14 : tk_FP 6 14 (.array .int) true := ⟨R_M, F_M, 21, t_M, rfl, t_M_ok, n_M, rfl, by decide +kernel, rfl⟩
theorem p_M_15 : tk_FP 6 15 (.array .int) true := ⟨R_M, F_M, 21, t_M, rfl, t_M_ok, n_M, rfl, by decide +kernel, rfl⟩
theorem p_M_16 : tk_FP 6 16 (.boolean) false := ⟨R_M, F_M, 21, t_M, rfl, t_M_ok, n_M, rfl, by decide +kernel, rfl⟩
theorem p_M_17 : tk_FP 6 17 (.boolean) false := ⟨R_M, F_M, 21, t_M, rfl, t_M_ok, n_M, rfl, by decide +kernel, rfl⟩
theorem p_M_18 : tk_FP 6 18 (.int) false := ⟨R_M, F_M, 21, t_M, rfl, t_M_ok, n_M, rfl, by decide +kernel, rfl⟩
theorem p_M_19 : tk_FP 6 19 (.array .int) true := ⟨R_M, F_M, 21, t_M, rfl, t_M_ok, n_M, rfl, by decide +kernel, rfl⟩
theorem p_M_20 : tk_FP 6 20 (.array .boolean) true := ⟨R_M, F_M, 21, t_M, rfl, t_M_ok, n_M, rfl, by decide +kernel, rfl⟩
theorem f_G_30 : tk_F "ChargePlans$Goods" 30 1 0 := ⟨R_G, F_G, 7, rfl, by decide, i_G, Or.inl (tk_at 30 (by decide +kernel) (by decide +kernel))⟩
theorem g_G_30 : tk_FF "ChargePlans$Goods" 30 1 0 := ⟨R_G, F_G, 7, rfl, by decide, i_G, tk_at 30 (by decide +kernel) (by decide +kernel), rfl⟩
theorem f_S_21 : tk_F "ChargePlans$Sums" 21 1 0 := ⟨R_G, F_G, 7, rfl, by decide, i_G, Or.inr ⟨"ChargePlans", tk_at 31 (by decide +kernel) (by decide +kernel)⟩⟩
theorem f_CP_37 : tk_F "ChargePlans" 37 1 0 := ⟨R_G, F_G, 7, rfl, by decide, i_G, Or.inr ⟨"ChargePlans", tk_at 32 (by decide +kernel) (by decide +kernel)⟩⟩
theorem f_G_9 : tk_F "ChargePlans$Goods" 9 1 1 := ⟨R_G, F_G, 7, rfl, by decide, i_G, Or.inl (tk_at 33 (by decide +kernel) (by decide +kernel))⟩
theorem g_G_9 : tk_FF "ChargePlans$Goods" 9 1 1 := ⟨R_G, F_G, 7, rfl, by decide, i_G, tk_at 33 (by decide +kernel) (by decide +kernel), rfl⟩
theorem f_S_44 : tk_F "ChargePlans$Sums" 44 1 1 := ⟨R_G, F_G, 7, rfl, by decide, i_G, Or.inr ⟨"ChargePlans", tk_at 34 (by decide +kernel) (by decide +kernel)⟩⟩
theorem f_CP_135 : tk_F "ChargePlans" 135 1 1 := ⟨R_G, F_G, 7, rfl, by decide, i_G, Or.inr ⟨"ChargePlans", tk_at 35 (by decide +kernel) (by decide +kernel)⟩⟩
theorem f_G_15 : tk_F "ChargePlans$Goods" 15 1 2 := ⟨R_G, F_G, 7, rfl, by decide, i_G, Or.inl (tk_at 36 (by decide +kernel) (by decide +kernel))⟩
theorem g_G_15 : tk_FF "ChargePlans$Goods" 15 1 2 := ⟨R_G, F_G, 7, rfl, by decide, i_G, tk_at 36 (by decide +kernel) (by decide +kernel), rfl⟩
theorem f_S_47 : tk_F "ChargePlans$Sums" 47 1 2 := ⟨R_G, F_G, 7, rfl, by decide, i_G, Or.inr ⟨"ChargePlans", tk_at 37 (by decide +kernel) (by decide +kernel)⟩⟩
theorem f_CP_145 : tk_F "ChargePlans" 145 1 2 := ⟨R_G, F_G, 7, rfl, by decide, i_G, Or.inr ⟨"ChargePlans", tk_at 38 (by decide +kernel) (by decide +kernel)⟩⟩
theorem f_G_18 : tk_F "ChargePlans$Goods" 18 1 3 := ⟨R_G, F_G, 7, rfl, by decide, i_G, Or.inl (tk_at 39 (by decide +kernel) (by decide +kernel))⟩
theorem g_G_18 : tk_FF "ChargePlans$Goods" 18 1 3 := ⟨R_G, F_G, 7, rfl, by decide, i_G, tk_at 39 (by decide +kernel) (by decide +kernel), rfl⟩
theorem f_CP_75 : tk_F "ChargePlans" 75 1 3 := ⟨R_G, F_G, 7, rfl, by decide, i_G, Or.inr ⟨"ChargePlans", tk_at 40 (by decide +kernel) (by decide +kernel)⟩⟩
theorem f_G_21 : tk_F "ChargePlans$Goods" 21 1 4 := ⟨R_G, F_G, 7, rfl, by decide, i_G, Or.inl (tk_at 41 (by decide +kernel) (by decide +kernel))⟩
theorem g_G_21 : tk_FF "ChargePlans$Goods" 21 1 4 := ⟨R_G, F_G, 7, rfl, by decide, i_G, tk_at 41 (by decide +kernel) (by decide +kernel), rfl⟩
theorem f_CP_69 : tk_F "ChargePlans" 69 1 4 := ⟨R_G, F_G, 7, rfl, by decide, i_G, Or.inr ⟨"ChargePlans", tk_at 42 (by decide +kernel) (by decide +kernel)⟩⟩
theorem f_G_24 : tk_F "ChargePlans$Goods" 24 1 5 := ⟨R_G, F_G, 7, rfl, by decide, i_G, Or.inl (tk_at 43 (by decide +kernel) (by decide +kernel))⟩
theorem g_G_24 : tk_FF "ChargePlans$Goods" 24 1 5 := ⟨R_G, F_G, 7, rfl, by decide, i_G, tk_at 43 (by decide +kernel) (by decide +kernel), rfl⟩
theorem f_CP_62 : tk_F "ChargePlans" 62 1 5 := ⟨R_G, F_G, 7, rfl, by decide, i_G, Or.inr ⟨"ChargePlans", tk_at 44 (by decide +kernel) (by decide +kernel)⟩⟩
theorem f_S_61 : tk_F "ChargePlans$Sums" 61 1 5 := ⟨R_G, F_G, 7, rfl, by decide, i_G, Or.inr ⟨"ChargePlans", tk_at 45 (by decide +kernel) (by decide +kernel)⟩⟩
theorem f_G_27 : tk_F "ChargePlans$Goods" 27 1 6 := ⟨R_G, F_G, 7, rfl, by decide, i_G, Or.inl (tk_at 46 (by decide +kernel) (by decide +kernel))⟩
theorem g_G_27 : tk_FF "ChargePlans$Goods" 27 1 6 := ⟨R_G, F_G, 7, rfl, by decide, i_G, tk_at 46 (by decide +kernel) (by decide +kernel), rfl⟩
theorem f_CP_66 : tk_F "ChargePlans" 66 1 6 := ⟨R_G, F_G, 7, rfl, by decide, i_G, Or.inr ⟨"ChargePlans", tk_at 47 (by decide +kernel) (by decide +kernel)⟩⟩
theorem f_S_54 : tk_F "ChargePlans$Sums" 54 1 6 := ⟨R_G, F_G, 7, rfl, by decide, i_G, Or.inr ⟨"ChargePlans", tk_at 48 (by decide +kernel) (by decide +kernel)⟩⟩
theorem f_H_33 : tk_F "ChargePlans$Heats" 33 2 0 := ⟨R_H, F_H, 8, rfl, by decide, i_H, Or.inl (tk_at 71 (by decide +kernel) (by decide +kernel))⟩
theorem g_H_33 : tk_FF "ChargePlans$Heats" 33 2 0 := ⟨R_H, F_H, 8, rfl, by decide, i_H, tk_at 71 (by decide +kernel) (by decide +kernel), rfl⟩
theorem f_CP_81 : tk_F "ChargePlans" 81 2 0 := ⟨R_H, F_H, 8, rfl, by decide, i_H, Or.inr ⟨"ChargePlans", tk_at 72 (by decide +kernel) (by decide +kernel)⟩⟩
theorem f_H_9 : tk_F "ChargePlans$Heats" 9 2 1 := ⟨R_H, F_H, 8, rfl, by decide, i_H, Or.inl (tk_at 73 (by decide +kernel) (by decide +kernel))⟩
theorem g_H_9 : tk_FF "ChargePlans$Heats" 9 2 1 := ⟨R_H, F_H, 8, rfl, by decide, i_H, tk_at 73 (by decide +kernel) (by decide +kernel), rfl⟩
theorem f_S_30 : tk_F "ChargePlans$Sums" 30 2 1 := ⟨R_H, F_H, 8, rfl, by decide, i_H, Or.inr ⟨"ChargePlans", tk_at 74 (by decide +kernel) (by decide +kernel)⟩⟩
theorem f_CP_142 : tk_F "ChargePlans" 142 2 1 := ⟨R_H, F_H, 8, rfl, by decide, i_H, Or.inr ⟨"ChargePlans", tk_at 75 (by decide +kernel) (by decide +kernel)⟩⟩
theorem f_H_15 : tk_F "ChargePlans$Heats" 15 2 2 := ⟨R_H, F_H, 8, rfl, by decide, i_H, Or.inl (tk_at 76 (by decide +kernel) (by decide +kernel))⟩
theorem g_H_15 : tk_FF "ChargePlans$Heats" 15 2 2 := ⟨R_H, F_H, 8, rfl, by decide, i_H, tk_at 76 (by decide +kernel) (by decide +kernel), rfl⟩
theorem f_S_35 : tk_F "ChargePlans$Sums" 35 2 2 := ⟨R_H, F_H, 8, rfl, by decide, i_H, Or.inr ⟨"ChargePlans", tk_at 77 (by decide +kernel) (by decide +kernel)⟩⟩
theorem f_H_18 : tk_F "ChargePlans$Heats" 18 2 3 := ⟨R_H, F_H, 8, rfl, by decide, i_H, Or.inl (tk_at 78 (by decide +kernel) (by decide +kernel))⟩
theorem g_H_18 : tk_FF "ChargePlans$Heats" 18 2 3 := ⟨R_H, F_H, 8, rfl, by decide, i_H, tk_at 78 (by decide +kernel) (by decide +kernel), rfl⟩
theorem f_S_58 : tk_F "ChargePlans$Sums" 58 2 3 := ⟨R_H, F_H, 8, rfl, by decide, i_H, Or.inr ⟨"ChargePlans", tk_at 79 (by decide +kernel) (by decide +kernel)⟩⟩
theorem f_CP_85 : tk_F "ChargePlans" 85 2 3 := ⟨R_H, F_H, 8, rfl, by decide, i_H, Or.inr ⟨"ChargePlans", tk_at 80 (by decide +kernel) (by decide +kernel)⟩⟩
theorem f_H_21 : tk_F "ChargePlans$Heats" 21 2 4 := ⟨R_H, F_H, 8, rfl, by decide, i_H, Or.inl (tk_at 81 (by decide +kernel) (by decide +kernel))⟩
theorem g_H_21 : tk_FF "ChargePlans$Heats" 21 2 4 := ⟨R_H, F_H, 8, rfl, by decide, i_H, tk_at 81 (by decide +kernel) (by decide +kernel), rfl⟩
theorem f_S_57 : tk_F "ChargePlans$Sums" 57 2 4 := ⟨R_H, F_H, 8, rfl, by decide, i_H, Or.inr ⟨"ChargePlans", tk_at 82 (by decide +kernel) (by decide +kernel)⟩⟩
theorem f_CP_86 : tk_F "ChargePlans" 86 2 4 := ⟨R_H, F_H, 8, rfl, by decide, i_H, Or.inr ⟨"ChargePlans", tk_at 83 (by decide +kernel) (by decide +kernel)⟩⟩
theorem f_H_24 : tk_F "ChargePlans$Heats" 24 2 5 := ⟨R_H, F_H, 8, rfl, by decide, i_H, Or.inl (tk_at 84 (by decide +kernel) (by decide +kernel))⟩
theorem g_H_24 : tk_FF "ChargePlans$Heats" 24 2 5 := ⟨R_H, F_H, 8, rfl, by decide, i_H, tk_at 84 (by decide +kernel) (by decide +kernel), rfl⟩
theorem f_S_38 : tk_F "ChargePlans$Sums" 38 2 5 := ⟨R_H, F_H, 8, rfl, by decide, i_H, Or.inr ⟨"ChargePlans", tk_at 85 (by decide +kernel) (by decide +kernel)⟩⟩
theorem f_CP_87 : tk_F "ChargePlans" 87 2 5 := ⟨R_H, F_H, 8, rfl, by decide, i_H, Or.inr ⟨"ChargePlans", tk_at 86 (by decide +kernel) (by decide +kernel)⟩⟩
theorem f_H_27 : tk_F "ChargePlans$Heats" 27 2 6 := ⟨R_H, F_H, 8, rfl, by decide, i_H, Or.inl (tk_at 87 (by decide +kernel) (by decide +kernel))⟩
theorem g_H_27 : tk_FF "ChargePlans$Heats" 27 2 6 := ⟨R_H, F_H, 8, rfl, by decide, i_H, tk_at 87 (by decide +kernel) (by decide +kernel), rfl⟩
theorem f_CP_160 : tk_F "ChargePlans" 160 2 6 := ⟨R_H, F_H, 8, rfl, by decide, i_H, Or.inr ⟨"ChargePlans", tk_at 88 (by decide +kernel) (by decide +kernel)⟩⟩
theorem f_H_30 : tk_F "ChargePlans$Heats" 30 2 7 := ⟨R_H, F_H, 8, rfl, by decide, i_H, Or.inl (tk_at 89 (by decide +kernel) (by decide +kernel))⟩
theorem g_H_30 : tk_FF "ChargePlans$Heats" 30 2 7 := ⟨R_H, F_H, 8, rfl, by decide, i_H, tk_at 89 (by decide +kernel) (by decide +kernel), rfl⟩
theorem f_CP_118 : tk_F "ChargePlans" 118 2 7 := ⟨R_H, F_H, 8, rfl, by decide, i_H, Or.inr ⟨"ChargePlans", tk_at 90 (by decide +kernel) (by decide +kernel)⟩⟩
theorem f_S_27 : tk_F "ChargePlans$Sums" 27 4 0 := ⟨R_S, F_S, 4, rfl, by decide, i_S, Or.inl (tk_at 120 (by decide +kernel) (by decide +kernel))⟩
theorem g_S_27 : tk_FF "ChargePlans$Sums" 27 4 0 := ⟨R_S, F_S, 4, rfl, by decide, i_S, tk_at 120 (by decide +kernel) (by decide +kernel), rfl⟩
theorem f_P_50 : tk_F "ChargePlans$Planning" 50 4 0 := ⟨R_S, F_S, 4, rfl, by decide, i_S, Or.inr ⟨"ChargePlans", tk_at 121 (by decide +kernel) (by decide +kernel)⟩⟩
theorem f_C_38 : tk_F "ChargePlans$Clashing" 38 4 0 := ⟨R_S, F_S, 4, rfl, by decide, i_S, Or.inr ⟨"ChargePlans", tk_at 122 (by decide +kernel) (by decide +kernel)⟩⟩
theorem f_S_9 : tk_F "ChargePlans$Sums" 9 4 1 := ⟨R_S, F_S, 4, rfl, by decide, i_S, Or.inl (tk_at 123 (by decide +kernel) (by decide +kernel))⟩
theorem g_S_9 : tk_FF "ChargePlans$Sums" 9 4 1 := ⟨R_S, F_S, 4, rfl, by decide, i_S, tk_at 123 (by decide +kernel) (by decide +kernel), rfl⟩
theorem f_P_59 : tk_F "ChargePlans$Planning" 59 4 1 := ⟨R_S, F_S, 4, rfl, by decide, i_S, Or.inr ⟨"ChargePlans", tk_at 124 (by decide +kernel) (by decide +kernel)⟩⟩
theorem f_C_49 : tk_F "ChargePlans$Clashing" 49 4 1 := ⟨R_S, F_S, 4, rfl, by decide, i_S, Or.inr ⟨"ChargePlans", tk_at 125 (by decide +kernel) (by decide +kernel)⟩⟩
theorem f_S_15 : tk_F "ChargePlans$Sums" 15 4 2 := ⟨R_S, F_S, 4, rfl, by decide, i_S, Or.inl (tk_at 126 (by decide +kernel) (by decide +kernel))⟩
theorem g_S_15 : tk_FF "ChargePlans$Sums" 15 4 2 := ⟨R_S, F_S, 4, rfl, by decide, i_S, tk_at 126 (by decide +kernel) (by decide +kernel), rfl⟩
theorem f_S_18 : tk_F "ChargePlans$Sums" 18 4 3 := ⟨R_S, F_S, 4, rfl, by decide, i_S, Or.inl (tk_at 127 (by decide +kernel) (by decide +kernel))⟩
theorem g_S_18 : tk_FF "ChargePlans$Sums" 18 4 3 := ⟨R_S, F_S, 4, rfl, by decide, i_S, tk_at 127 (by decide +kernel) (by decide +kernel), rfl⟩
theorem f_P_12 : tk_F "ChargePlans$Planning" 12 3 0 := ⟨R_P, F_P, 8, rfl, by decide, i_P, Or.inl (tk_at 137 (by decide +kernel) (by decide +kernel))⟩
theorem g_P_12 : tk_FF "ChargePlans$Planning" 12 3 0 := ⟨R_P, F_P, 8, rfl, by decide, i_P, tk_at 137 (by decide +kernel) (by decide +kernel), rfl⟩
theorem f_P_18 : tk_F "ChargePlans$Planning" 18 3 1 := ⟨R_P, F_P, 8, rfl, by decide, i_P, Or.inl (tk_at 138 (by decide +kernel) (by decide +kernel))⟩
theorem g_P_18 : tk_FF "ChargePlans$Planning" 18 3 1 := ⟨R_P, F_P, 8, rfl, by decide, i_P, tk_at 138 (by decide +kernel) (by decide +kernel), rfl⟩
theorem f_P_22 : tk_F "ChargePlans$Planning" 22 3 2 := ⟨R_P, F_P, 8, rfl, by decide, i_P, Or.inl (tk_at 139 (by decide +kernel) (by decide +kernel))⟩
theorem g_P_22 : tk_FF "ChargePlans$Planning" 22 3 2 := ⟨R_P, F_P, 8, rfl, by decide, i_P, tk_at 139 (by decide +kernel) (by decide +kernel), rfl⟩
theorem f_CP_94 : tk_F "ChargePlans" 94 3 2 := ⟨R_P, F_P, 8, rfl, by decide, i_P, Or.inr ⟨"ChargePlans", tk_at 140 (by decide +kernel) (by decide +kernel)⟩⟩
theorem f_P_29 : tk_F "ChargePlans$Planning" 29 3 3 := ⟨R_P, F_P, 8, rfl, by decide, i_P, Or.inl (tk_at 141 (by decide +kernel) (by decide +kernel))⟩
theorem g_P_29 : tk_FF "ChargePlans$Planning" 29 3 3 := ⟨R_P, F_P, 8, rfl, by decide, i_P, tk_at 141 (by decide +kernel) (by decide +kernel), rfl⟩
theorem f_CP_97 : tk_F "ChargePlans" 97 3 3 := ⟨R_P, F_P, 8, rfl, by decide, i_P, Or.inr ⟨"ChargePlans", tk_at 142 (by decide +kernel) (by decide +kernel)⟩⟩
theorem f_P_33 : tk_F "ChargePlans$Planning" 33 3 4 := ⟨R_P, F_P, 8, rfl, by decide, i_P, Or.inl (tk_at 143 (by decide +kernel) (by decide +kernel))⟩
theorem g_P_33 : tk_FF "ChargePlans$Planning" 33 3 4 := ⟨R_P, F_P, 8, rfl, by decide, i_P, tk_at 143 (by decide +kernel) (by decide +kernel), rfl⟩
theorem f_P_36 : tk_F "ChargePlans$Planning" 36 3 5 := ⟨R_P, F_P, 8, rfl, by decide, i_P, Or.inl (tk_at 144 (by decide +kernel) (by decide +kernel))⟩
theorem g_P_36 : tk_FF "ChargePlans$Planning" 36 3 5 := ⟨R_P, F_P, 8, rfl, by decide, i_P, tk_at 144 (by decide +kernel) (by decide +kernel), rfl⟩
theorem f_CP_108 : tk_F "ChargePlans" 108 3 5 := ⟨R_P, F_P, 8, rfl, by decide, i_P, Or.inr ⟨"ChargePlans", tk_at 145 (by decide +kernel) (by decide +kernel)⟩⟩
theorem f_P_39 : tk_F "ChargePlans$Planning" 39 3 6 := ⟨R_P, F_P, 8, rfl, by decide, i_P, Or.inl (tk_at 146 (by decide +kernel) (by decide +kernel))⟩
theorem g_P_39 : tk_FF "ChargePlans$Planning" 39 3 6 := ⟨R_P, F_P, 8, rfl, by decide, i_P, tk_at 146 (by decide +kernel) (by decide +kernel), rfl⟩
theorem f_CP_111 : tk_F "ChargePlans" 111 3 6 := ⟨R_P, F_P, 8, rfl, by decide, i_P, Or.inr ⟨"ChargePlans", tk_at 147 (by decide +kernel) (by decide +kernel)⟩⟩
theorem f_P_43 : tk_F "ChargePlans$Planning" 43 3 7 := ⟨R_P, F_P, 8, rfl, by decide, i_P, Or.inl (tk_at 148 (by decide +kernel) (by decide +kernel))⟩
theorem g_P_43 : tk_FF "ChargePlans$Planning" 43 3 7 := ⟨R_P, F_P, 8, rfl, by decide, i_P, tk_at 148 (by decide +kernel) (by decide +kernel), rfl⟩
theorem f_CP_104 : tk_F "ChargePlans" 104 3 7 := ⟨R_P, F_P, 8, rfl, by decide, i_P, Or.inr ⟨"ChargePlans", tk_at 149 (by decide +kernel) (by decide +kernel)⟩⟩
theorem f_C_12 : tk_F "ChargePlans$Clashing" 12 5 0 := ⟨R_C, F_C, 3, rfl, by decide, i_C, Or.inl (tk_at 175 (by decide +kernel) (by decide +kernel))⟩
theorem g_C_12 : tk_FF "ChargePlans$Clashing" 12 5 0 := ⟨R_C, F_C, 3, rfl, by decide, i_C, tk_at 175 (by decide +kernel) (by decide +kernel), rfl⟩
theorem f_C_18 : tk_F "ChargePlans$Clashing" 18 5 1 := ⟨R_C, F_C, 3, rfl, by decide, i_C, Or.inl (tk_at 176 (by decide +kernel) (by decide +kernel))⟩
theorem g_C_18 : tk_FF "ChargePlans$Clashing" 18 5 1 := ⟨R_C, F_C, 3, rfl, by decide, i_C, tk_at 176 (by decide +kernel) (by decide +kernel), rfl⟩
theorem f_C_26 : tk_F "ChargePlans$Clashing" 26 5 2 := ⟨R_C, F_C, 3, rfl, by decide, i_C, Or.inl (tk_at 177 (by decide +kernel) (by decide +kernel))⟩
theorem g_C_26 : tk_FF "ChargePlans$Clashing" 26 5 2 := ⟨R_C, F_C, 3, rfl, by decide, i_C, tk_at 177 (by decide +kernel) (by decide +kernel), rfl⟩
theorem f_CP_10 : tk_F "ChargePlans" 10 0 0 := ⟨R_CP, F_CP, 4, rfl, by decide, i_CP, Or.inl (tk_at 186 (by decide +kernel) (by decide +kernel))⟩
theorem g_CP_10 : tk_FF "ChargePlans" 10 0 0 := ⟨R_CP, F_CP, 4, rfl, by decide, i_CP, tk_at 186 (by decide +kernel) (by decide +kernel), rfl⟩
theorem f_CP_19 : tk_F "ChargePlans" 19 0 1 := ⟨R_CP, F_CP, 4, rfl, by decide, i_CP, Or.inl (tk_at 187 (by decide +kernel) (by decide +kernel))⟩
theorem g_CP_19 : tk_FF "ChargePlans" 19 0 1 := ⟨R_CP, F_CP, 4, rfl, by decide, i_CP, tk_at 187 (by decide +kernel) (by decide +kernel), rfl⟩
theorem f_CP_26 : tk_F "ChargePlans" 26 0 2 := ⟨R_CP, F_CP, 4, rfl, by decide, i_CP, Or.inl (tk_at 188 (by decide +kernel) (by decide +kernel))⟩
theorem g_CP_26 : tk_FF "ChargePlans" 26 0 2 := ⟨R_CP, F_CP, 4, rfl, by decide, i_CP, tk_at 188 (by decide +kernel) (by decide +kernel), rfl⟩
theorem f_CP_33 : tk_F "ChargePlans" 33 0 3 := ⟨R_CP, F_CP, 4, rfl, by decide, i_CP, Or.inl (tk_at 189 (by decide +kernel) (by decide +kernel))⟩
theorem g_CP_33 : tk_FF "ChargePlans" 33 0 3 := ⟨R_CP, F_CP, 4, rfl, by decide, i_CP, tk_at 189 (by decide +kernel) (by decide +kernel), rfl⟩
theorem f_M_56 : tk_F "ChargePlansModel" 56 6 0 := ⟨R_M, F_M, 21, rfl, by decide, i_M, Or.inl (tk_at 556 (by decide +kernel) (by decide +kernel))⟩
theorem g_M_56 : tk_FF "ChargePlansModel" 56 6 0 := ⟨R_M, F_M, 21, rfl, by decide, i_M, tk_at 556 (by decide +kernel) (by decide +kernel), rfl⟩
theorem f_M_60 : tk_F "ChargePlansModel" 60 6 1 := ⟨R_M, F_M, 21, rfl, by decide, i_M, Or.inl (tk_at 557 (by decide +kernel) (by decide +kernel))⟩
theorem g_M_60 : tk_FF "ChargePlansModel" 60 6 1 := ⟨R_M, F_M, 21, rfl, by decide, i_M, tk_at 557 (by decide +kernel) (by decide +kernel), rfl⟩
theorem f_M_7 : tk_F "ChargePlansModel" 7 6 2 := ⟨R_M, F_M, 21, rfl, by decide, i_M, Or.inl (tk_at 558 (by decide +kernel) (by decide +kernel))⟩
theorem g_M_7 : tk_FF "ChargePlansModel" 7 6 2 := ⟨R_M, F_M, 21, rfl, by decide, i_M, tk_at 558 (by decide +kernel) (by decide +kernel), rfl⟩
theorem f_M_13 : tk_F "ChargePlansModel" 13 6 3 := ⟨R_M, F_M, 21, rfl, by decide, i_M, Or.inl (tk_at 559 (by decide +kernel) (by decide +kernel))⟩
theorem g_M_13 : tk_FF "ChargePlansModel" 13 6 3 := ⟨R_M, F_M, 21, rfl, by decide, i_M, tk_at 559 (by decide +kernel) (by decide +kernel), rfl⟩
theorem f_M_16 : tk_F "ChargePlansModel" 16 6 4 := ⟨R_M, F_M, 21, rfl, by decide, i_M, Or.inl (tk_at 560 (by decide +kernel) (by decide +kernel))⟩
theorem g_M_16 : tk_FF "ChargePlansModel" 16 6 4 := ⟨R_M, F_M, 21, rfl, by decide, i_M, tk_at 560 (by decide +kernel) (by decide +kernel), rfl⟩
theorem f_M_19 : tk_F "ChargePlansModel" 19 6 5 := ⟨R_M, F_M, 21, rfl, by decide, i_M, Or.inl (tk_at 561 (by decide +kernel) (by decide +kernel))⟩
theorem g_M_19 : tk_FF "ChargePlansModel" 19 6 5 := ⟨R_M, F_M, 21, rfl, by decide, i_M, tk_at 561 (by decide +kernel) (by decide +kernel), rfl⟩
theorem f_M_22 : tk_F "ChargePlansModel" 22 6 6 := ⟨R_M, F_M, 21, rfl, by decide, i_M, Or.inl (tk_at 562 (by decide +kernel) (by decide +kernel))⟩
theorem g_M_22 : tk_FF "ChargePlansModel" 22 6 6 := ⟨R_M, F_M, 21, rfl, by decide, i_M, tk_at 562 (by decide +kernel) (by decide +kernel), rfl⟩
theorem f_M_25 : tk_F "ChargePlansModel" 25 6 7 := ⟨R_M, F_M, 21, rfl, by decide, i_M, Or.inl (tk_at 563 (by decide +kernel) (by decide +kernel))⟩
theorem g_M_25 : tk_FF "ChargePlansModel" 25 6 7 := ⟨R_M, F_M, 21, rfl, by decide, i_M, tk_at 563 (by decide +kernel) (by decide +kernel), rfl⟩
theorem f_M_67 : tk_F "ChargePlansModel" 67 6 8 := ⟨R_M, F_M, 21, rfl, by decide, i_M, Or.inl (tk_at 564 (by decide +kernel) (by decide +kernel))⟩
theorem g_M_67 : tk_FF "ChargePlansModel" 67 6 8 := ⟨R_M, F_M, 21, rfl, by decide, i_M, tk_at 564 (by decide +kernel) (by decide +kernel), rfl⟩
theorem f_M_28 : tk_F "ChargePlansModel" 28 6 9 := ⟨R_M, F_M, 21, rfl, by decide, i_M, Or.inl (tk_at 565 (by decide +kernel) (by decide +kernel))⟩
theorem g_M_28 : tk_FF "ChargePlansModel" 28 6 9 := ⟨R_M, F_M, 21, rfl, by decide, i_M, tk_at 565 (by decide +kernel) (by decide +kernel), rfl⟩
theorem f_M_31 : tk_F "ChargePlansModel" 31 6 10 := ⟨R_M, F_M, 21, rfl, by decide, i_M, Or.inl (tk_at 566 (by decide +kernel) (by decide +kernel))⟩
theorem g_M_31 : tk_FF "ChargePlansModel" 31 6 10 := ⟨R_M, F_M, 21, rfl, by decide, i_M, tk_at 566 (by decide +kernel) (by decide +kernel), rfl⟩
theorem f_M_34 : tk_F "ChargePlansModel" 34 6 11 := ⟨R_M, F_M, 21, rfl, by decide, i_M, Or.inl (tk_at 567 (by decide +kernel) (by decide +kernel))⟩
theorem g_M_34 : tk_FF "ChargePlansModel" 34 6 11 := ⟨R_M, F_M, 21, rfl, by decide, i_M, tk_at 567 (by decide +kernel) (by decide +kernel), rfl⟩
theorem f_M_37 : tk_F "ChargePlansModel" 37 6 12 := ⟨R_M, F_M, 21, rfl, by decide, i_M, Or.inl (tk_at 568 (by decide +kernel) (by decide +kernel))⟩
theorem g_M_37 : tk_FF "ChargePlansModel" 37 6 12 := ⟨R_M, F_M, 21, rfl, by decide, i_M, tk_at 568 (by decide +kernel) (by decide +kernel), rfl⟩
theorem f_M_40 : tk_F "ChargePlansModel" 40 6 13 := ⟨R_M, F_M, 21, rfl, by decide, i_M, Or.inl (tk_at 569 (by decide +kernel) (by decide +kernel))⟩
theorem g_M_40 : tk_FF "ChargePlansModel" 40 6 13 := ⟨R_M, F_M, 21, rfl, by decide, i_M, tk_at 569 (by decide +kernel) (by decide +kernel), rfl⟩
theorem f_M_43 : tk_F "ChargePlansModel" 43 6 14 := ⟨R_M, F_M, 21, rfl, by decide, i_M, Or.inl (tk_at 570 (by decide +kernel) (by decide +kernel))⟩
theorem g_M_43 : tk_FF "ChargePlansModel" 43 6 14 := ⟨R_M, F_M, 21, rfl, by decide, i_M, tk_at 570 (by decide +kernel) (by decide +kernel), rfl⟩
theorem f_M_46 : tk_F "ChargePlansModel" 46 6 15 := ⟨R_M, F_M, 21, rfl, by decide, i_M, Or.inl (tk_at 571 (by decide +kernel) (by decide +kernel))⟩
theorem g_M_46 : tk_FF "ChargePlansModel" 46 6 15 := ⟨R_M, F_M, 21, rfl, by decide, i_M, tk_at 571 (by decide +kernel) (by decide +kernel), rfl⟩
theorem f_M_101 : tk_F "ChargePlansModel" 101 6 16 := ⟨R_M, F_M, 21, rfl, by decide, i_M, Or.inl (tk_at 572 (by decide +kernel) (by decide +kernel))⟩
theorem g_M_101 : tk_FF "ChargePlansModel" 101 6 16 := ⟨R_M, F_M, 21, rfl, by decide, i_M, tk_at 572 (by decide +kernel) (by decide +kernel), rfl⟩
theorem f_M_105 : tk_F "ChargePlansModel" 105 6 17 := ⟨R_M, F_M, 21, rfl, by decide, i_M, Or.inl (tk_at 573 (by decide +kernel) (by decide +kernel))⟩
theorem g_M_105 : tk_FF "ChargePlansModel" 105 6 17 := ⟨R_M, F_M, 21, rfl, by decide, i_M, tk_at 573 (by decide +kernel) (by decide +kernel), rfl⟩
theorem f_M_108 : tk_F "ChargePlansModel" 108 6 18 := ⟨R_M, F_M, 21, rfl, by decide, i_M, Or.inl (tk_at 574 (by decide +kernel) (by decide +kernel))⟩
theorem g_M_108 : tk_FF "ChargePlansModel" 108 6 18 := ⟨R_M, F_M, 21, rfl, by decide, i_M, tk_at 574 (by decide +kernel) (by decide +kernel), rfl⟩
theorem f_M_49 : tk_F "ChargePlansModel" 49 6 19 := ⟨R_M, F_M, 21, rfl, by decide, i_M, Or.inl (tk_at 575 (by decide +kernel) (by decide +kernel))⟩
theorem g_M_49 : tk_FF "ChargePlansModel" 49 6 19 := ⟨R_M, F_M, 21, rfl, by decide, i_M, tk_at 575 (by decide +kernel) (by decide +kernel), rfl⟩
theorem f_M_52 : tk_F "ChargePlansModel" 52 6 20 := ⟨R_M, F_M, 21, rfl, by decide, i_M, Or.inl (tk_at 576 (by decide +kernel) (by decide +kernel))⟩
theorem g_M_52 : tk_FF "ChargePlansModel" 52 6 20 := ⟨R_M, F_M, 21, rfl, by decide, i_M, tk_at 576 (by decide +kernel) (by decide +kernel), rfl⟩
abbrev c_CP_init : ByteArray := prog_1_method_1_code
def y_CP_init : MethodName := ⟨"ChargePlans", "<init>", "()V"⟩
abbrev w_CP_init : Cond := .code y_CP_init c_CP_init 1 none
set_option maxRecDepth 20000 in
theorem k_CP_init : tk_CI y_CP_init w_CP_init 1 0 := ⟨⟨tk_isC_code, tk_ac 20 rfl (by decide +kernel), tk_at 1 (by decide +kernel) (by decide +kernel), by decide, by decide +kernel, by decide +kernel⟩, tk_at 19 (by decide +kernel) (by decide +kernel), rfl, _, rfl⟩
abbrev c_G_init : ByteArray := prog_3_method_1_code
def y_G_init : MethodName := ⟨"ChargePlans$Goods", "<init>", "()V"⟩
abbrev w_G_init : Cond := .code y_G_init c_G_init 1 none
set_option maxRecDepth 20000 in
theorem k_G_init : tk_CI y_G_init w_G_init 1 0 := ⟨⟨tk_isC_code, tk_ac 28 rfl (by decide +kernel), tk_at 2 (by decide +kernel) (by decide +kernel), by decide, by decide +kernel, by decide +kernel⟩, tk_at 27 (by decide +kernel) (by decide +kernel), rfl, _, rfl⟩
abbrev c_H_init : ByteArray := prog_4_method_1_code
def y_H_init : MethodName := ⟨"ChargePlans$Heats", "<init>", "()V"⟩
abbrev w_H_init : Cond := .code y_H_init c_H_init 1 none
set_option maxRecDepth 20000 in
theorem k_H_init : tk_CI y_H_init w_H_init 1 0 := ⟨⟨tk_isC_code, tk_ac 69 rfl (by decide +kernel), tk_at 3 (by decide +kernel) (by decide +kernel), by decide, by decide +kernel, by decide +kernel⟩, tk_at 68 (by decide +kernel) (by decide +kernel), rfl, _, rfl⟩
abbrev c_P_init : ByteArray := prog_5_method_1_code
def y_P_init : MethodName := ⟨"ChargePlans$Planning", "<init>", "()V"⟩
abbrev w_P_init : Cond := .code y_P_init c_P_init 1 none
set_option maxRecDepth 20000 in
theorem k_P_init : tk_CI y_P_init w_P_init 1 0 := ⟨⟨tk_isC_code, tk_ac 112 rfl (by decide +kernel), tk_at 4 (by decide +kernel) (by decide +kernel), by decide, by decide +kernel, by decide +kernel⟩, tk_at 111 (by decide +kernel) (by decide +kernel), rfl, _, rfl⟩
abbrev c_S_init : ByteArray := prog_6_method_1_code
def y_S_init : MethodName := ⟨"ChargePlans$Sums", "<init>", "()V"⟩
abbrev w_S_init : Cond := .code y_S_init c_S_init 1 none
set_option maxRecDepth 20000 in
theorem k_S_init : tk_CI y_S_init w_S_init 1 0 := ⟨⟨tk_isC_code, tk_ac 118 rfl (by decide +kernel), tk_at 5 (by decide +kernel) (by decide +kernel), by decide, by decide +kernel, by decide +kernel⟩, tk_at 117 (by decide +kernel) (by decide +kernel), rfl, _, rfl⟩
abbrev c_C_init : ByteArray := prog_2_method_1_code
def y_C_init : MethodName := ⟨"ChargePlans$Clashing", "<init>", "()V"⟩
abbrev w_C_init : Cond := .code y_C_init c_C_init 1 none
set_option maxRecDepth 20000 in
theorem k_C_init : tk_CI y_C_init w_C_init 1 0 := ⟨⟨tk_isC_code, tk_ac 171 rfl (by decide +kernel), tk_at 6 (by decide +kernel) (by decide +kernel), by decide, by decide +kernel, by decide +kernel⟩, tk_at 170 (by decide +kernel) (by decide +kernel), rfl, _, rfl⟩
abbrev c_L_good : ByteArray := method_3_code
def y_L_good : MethodName := ⟨"ChargePlansLaw", "good", "(LChargePlans;III[J)I"⟩
abbrev h_L_good : List (Nat × Nat × Nat × Nat) := [(0, 12, 15, 13), (0, 12, 19, 15)]
abbrev w_L_good : Cond := .codeWith y_L_good c_L_good 6 (some .int) h_L_good
set_option maxRecDepth 20000 in
theorem k_L_good : tk_CS y_L_good w_L_good 6 5 := ⟨⟨tk_isC_with, tk_ac 201 rfl (by decide +kernel), tk_at 0 (by decide +kernel) (by decide +kernel), by decide, by decide +kernel, by decide +kernel⟩, tk_at 200 (by decide +kernel) (by decide +kernel)⟩
abbrev c_CP_good : ByteArray := prog_1_method_2_code
def y_CP_good : MethodName := ⟨"ChargePlans", "good", "(III)I"⟩
abbrev w_CP_good : Cond := .code y_CP_good c_CP_good 4 (some .int)
set_option maxRecDepth 20000 in
theorem k_CP_good : tk_CV y_CP_good w_CP_good 4 3 := ⟨⟨tk_isC_code, tk_ac 207 rfl (by decide +kernel), tk_at 1 (by decide +kernel) (by decide +kernel), by decide, by decide +kernel, by decide +kernel⟩, tk_at 205 (by decide +kernel) (by decide +kernel), tk_at 206 (by decide +kernel) (by decide +kernel)⟩
abbrev c_CP_requireTurn : ByteArray := prog_1_method_22_code
def y_CP_requireTurn : MethodName := ⟨"ChargePlans", "requireTurn", "(Z)V"⟩
abbrev w_CP_requireTurn : Cond := .code y_CP_requireTurn c_CP_requireTurn 1 none
set_option maxRecDepth 20000 in
theorem k_CP_requireTurn : tk_CS y_CP_requireTurn w_CP_requireTurn 1 1 := ⟨⟨tk_isC_code, tk_ac 210 rfl (by decide +kernel), tk_at 1 (by decide +kernel) (by decide +kernel), by decide, by decide +kernel, by decide +kernel⟩, tk_at 209 (by decide +kernel) (by decide +kernel)⟩
abbrev c_CP_requireRange : ByteArray := prog_1_method_24_code
def y_CP_requireRange : MethodName := ⟨"ChargePlans", "requireRange", "(III)V"⟩
abbrev w_CP_requireRange : Cond := .code y_CP_requireRange c_CP_requireRange 3 none
set_option maxRecDepth 20000 in
theorem k_CP_requireRange : tk_CS y_CP_requireRange w_CP_requireRange 3 3 := ⟨⟨tk_isC_code, tk_ac 282 rfl (by decide +kernel), tk_at 1 (by decide +kernel) (by decide +kernel), by decide, by decide +kernel, by decide +kernel⟩, tk_at 281 (by decide +kernel) (by decide +kernel)⟩
abbrev c_CP_requireArgument : ByteArray := prog_1_method_23_code
def y_CP_requireArgument : MethodName := ⟨"ChargePlans", "requireArgument", "(Z)V"⟩
abbrev w_CP_requireArgument : Cond := .code y_CP_requireArgument c_CP_requireArgument 1 none
set_option maxRecDepth 20000 in
theorem k_CP_requireArgument : tk_CS y_CP_requireArgument w_CP_requireArgument 1 1 := ⟨⟨tk_isC_code, tk_ac 285 rfl (by decide +kernel), tk_at 1 (by decide +kernel) (by decide +kernel), by decide, by decide +kernel, by decide +kernel⟩, tk_at 284 (by decide +kernel) (by decide +kernel)⟩
abbrev c_G_append : ByteArray := prog_3_method_2_code
def y_G_append : MethodName := ⟨"ChargePlans$Goods", "append", "(III)I"⟩
abbrev w_G_append : Cond := .code y_G_append c_G_append 5 (some .int)
set_option maxRecDepth 20000 in
theorem k_G_append : tk_CV y_G_append w_G_append 5 3 := ⟨⟨tk_isC_code, tk_ac 306 rfl (by decide +kernel), tk_at 2 (by decide +kernel) (by decide +kernel), by decide, by decide +kernel, by decide +kernel⟩, tk_at 305 (by decide +kernel) (by decide +kernel), tk_sl (by decide +kernel) (by decide +kernel)⟩
abbrev c_L_element : ByteArray := method_4_code
def y_L_element : MethodName := ⟨"ChargePlansLaw", "element", "(LChargePlans;IIII)I"⟩
abbrev h_L_element : List (Nat × Nat × Nat × Nat) := [(0, 9, 12, 21), (0, 9, 16, 15)]
abbrev w_L_element : Cond := .codeWith y_L_element c_L_element 6 (some .int) h_L_element
set_option maxRecDepth 20000 in
theorem k_L_element : tk_CS y_L_element w_L_element 6 5 := ⟨⟨tk_isC_with, tk_ac 309 rfl (by decide +kernel), tk_at 0 (by decide +kernel) (by decide +kernel), by decide, by decide +kernel, by decide +kernel⟩, tk_at 308 (by decide +kernel) (by decide +kernel)⟩
abbrev c_CP_element : ByteArray := prog_1_method_3_code
def y_CP_element : MethodName := ⟨"ChargePlans", "element", "(IIII)V"⟩
abbrev w_CP_element : Cond := .code y_CP_element c_CP_element 5 none
set_option maxRecDepth 20000 in
theorem k_CP_element : tk_CV y_CP_element w_CP_element 5 4 := ⟨⟨tk_isC_code, tk_ac 314 rfl (by decide +kernel), tk_at 1 (by decide +kernel) (by decide +kernel), by decide, by decide +kernel, by decide +kernel⟩, tk_at 312 (by decide +kernel) (by decide +kernel), tk_at 313 (by decide +kernel) (by decide +kernel)⟩
abbrev c_CP_requireIndex : ByteArray := prog_1_method_21_code
def y_CP_requireIndex : MethodName := ⟨"ChargePlans", "requireIndex", "(II)V"⟩
abbrev w_CP_requireIndex : Cond := .code y_CP_requireIndex c_CP_requireIndex 2 none
set_option maxRecDepth 20000 in
theorem k_CP_requireIndex : tk_CS y_CP_requireIndex w_CP_requireIndex 2 2 := ⟨⟨tk_isC_code, tk_ac 317 rfl (by decide +kernel), tk_at 1 (by decide +kernel) (by decide +kernel), by decide, by decide +kernel, by decide +kernel⟩, tk_at 316 (by decide +kernel) (by decide +kernel)⟩
abbrev c_CP_requireSpan : ByteArray := prog_1_method_25_code
def y_CP_requireSpan : MethodName := ⟨"ChargePlans", "requireSpan", "(IIII)V"⟩
abbrev w_CP_requireSpan : Cond := .code y_CP_requireSpan c_CP_requireSpan 4 none
set_option maxRecDepth 20000 in
theorem k_CP_requireSpan : tk_CS y_CP_requireSpan w_CP_requireSpan 4 4 := ⟨⟨tk_isC_code, tk_ac 336 rfl (by decide +kernel), tk_at 1 (by decide +kernel) (by decide +kernel), by decide, by decide +kernel, by decide +kernel⟩, tk_at 335 (by decide +kernel) (by decide +kernel)⟩
abbrev c_L_limit : ByteArray := method_5_code
def y_L_limit : MethodName := ⟨"ChargePlansLaw", "limit", "(LChargePlans;II)I"⟩
abbrev h_L_limit : List (Nat × Nat × Nat × Nat) := [(0, 6, 9, 21), (0, 6, 12, 15)]
abbrev w_L_limit : Cond := .codeWith y_L_limit c_L_limit 4 (some .int) h_L_limit
set_option maxRecDepth 20000 in
theorem k_L_limit : tk_CS y_L_limit w_L_limit 4 3 := ⟨⟨tk_isC_with, tk_ac 339 rfl (by decide +kernel), tk_at 0 (by decide +kernel) (by decide +kernel), by decide, by decide +kernel, by decide +kernel⟩, tk_at 338 (by decide +kernel) (by decide +kernel)⟩
abbrev c_CP_limit : ByteArray := prog_1_method_4_code
def y_CP_limit : MethodName := ⟨"ChargePlans", "limit", "(II)V"⟩
abbrev w_CP_limit : Cond := .code y_CP_limit c_CP_limit 3 none
set_option maxRecDepth 20000 in
theorem k_CP_limit : tk_CV y_CP_limit w_CP_limit 3 2 := ⟨⟨tk_isC_code, tk_ac 343 rfl (by decide +kernel), tk_at 1 (by decide +kernel) (by decide +kernel), by decide, by decide +kernel, by decide +kernel⟩, tk_at 341 (by decide +kernel) (by decide +kernel), tk_at 342 (by decide +kernel) (by decide +kernel)⟩
abbrev c_L_arrive : ByteArray := method_6_code
def y_L_arrive : MethodName := ⟨"ChargePlansLaw", "arrive", "(LChargePlans;II[J)I"⟩
abbrev h_L_arrive : List (Nat × Nat × Nat × Nat) := [(0, 10, 13, 21), (0, 10, 17, 15), (0, 10, 21, 31)]
abbrev w_L_arrive : Cond := .codeWith y_L_arrive c_L_arrive 5 (some .int) h_L_arrive
set_option maxRecDepth 20000 in
theorem k_L_arrive : tk_CS y_L_arrive w_L_arrive 5 4 := ⟨⟨tk_isC_with, tk_ac 346 rfl (by decide +kernel), tk_at 0 (by decide +kernel) (by decide +kernel), by decide, by decide +kernel, by decide +kernel⟩, tk_at 345 (by decide +kernel) (by decide +kernel)⟩
abbrev c_CP_arrive : ByteArray := prog_1_method_5_code
def y_CP_arrive : MethodName := ⟨"ChargePlans", "arrive", "(II)I"⟩
abbrev w_CP_arrive : Cond := .code y_CP_arrive c_CP_arrive 3 (some .int)
set_option maxRecDepth 20000 in
theorem k_CP_arrive : tk_CV y_CP_arrive w_CP_arrive 3 2 := ⟨⟨tk_isC_code, tk_ac 351 rfl (by decide +kernel), tk_at 1 (by decide +kernel) (by decide +kernel), by decide, by decide +kernel, by decide +kernel⟩, tk_at 349 (by decide +kernel) (by decide +kernel), tk_at 350 (by decide +kernel) (by decide +kernel)⟩
abbrev c_CP_requireMeaning : ByteArray := prog_1_method_26_code
def y_CP_requireMeaning : MethodName := ⟨"ChargePlans", "requireMeaning", "(Z)V"⟩
abbrev w_CP_requireMeaning : Cond := .code y_CP_requireMeaning c_CP_requireMeaning 1 none
set_option maxRecDepth 20000 in
theorem k_CP_requireMeaning : tk_CS y_CP_requireMeaning w_CP_requireMeaning 1 1 := ⟨⟨tk_isC_code, tk_ac 354 rfl (by decide +kernel), tk_at 1 (by decide +kernel) (by decide +kernel), by decide, by decide +kernel, by decide +kernel⟩, tk_at 353 (by decide +kernel) (by decide +kernel)⟩
abbrev c_L_heat : ByteArray := method_7_code
def y_L_heat : MethodName := ⟨"ChargePlansLaw", "heat", "(LChargePlans;II[J)I"⟩
abbrev h_L_heat : List (Nat × Nat × Nat × Nat) := [(0, 10, 13, 13), (0, 10, 17, 15)]
abbrev w_L_heat : Cond := .codeWith y_L_heat c_L_heat 5 (some .int) h_L_heat
set_option maxRecDepth 20000 in
theorem k_L_heat : tk_CS y_L_heat w_L_heat 5 4 := ⟨⟨tk_isC_with, tk_ac 373 rfl (by decide +kernel), tk_at 0 (by decide +kernel) (by decide +kernel), by decide, by decide +kernel, by decide +kernel⟩, tk_at 372 (by decide +kernel) (by decide +kernel)⟩
abbrev c_CP_heat : ByteArray := prog_1_method_6_code
def y_CP_heat : MethodName := ⟨"ChargePlans", "heat", "(II)I"⟩
abbrev w_CP_heat : Cond := .code y_CP_heat c_CP_heat 3 (some .int)
set_option maxRecDepth 20000 in
theorem k_CP_heat : tk_CV y_CP_heat w_CP_heat 3 2 := ⟨⟨tk_isC_code, tk_ac 377 rfl (by decide +kernel), tk_at 1 (by decide +kernel) (by decide +kernel), by decide, by decide +kernel, by decide +kernel⟩, tk_at 375 (by decide +kernel) (by decide +kernel), tk_at 376 (by decide +kernel) (by decide +kernel)⟩
abbrev c_H_append : ByteArray := prog_4_method_2_code
def y_H_append : MethodName := ⟨"ChargePlans$Heats", "append", "(II)I"⟩
abbrev w_H_append : Cond := .code y_H_append c_H_append 5 (some .int)
set_option maxRecDepth 20000 in
theorem k_H_append : tk_CV y_H_append w_H_append 5 2 := ⟨⟨tk_isC_code, tk_ac 381 rfl (by decide +kernel), tk_at 3 (by decide +kernel) (by decide +kernel), by decide, by decide +kernel, by decide +kernel⟩, tk_at 380 (by decide +kernel) (by decide +kernel), tk_sl (by decide +kernel) (by decide +kernel)⟩
abbrev c_L_span : ByteArray := method_8_code
def y_L_span : MethodName := ⟨"ChargePlansLaw", "span", "(LChargePlans;IIII)I"⟩
abbrev h_L_span : List (Nat × Nat × Nat × Nat) := [(0, 9, 12, 21), (0, 9, 16, 15)]
abbrev w_L_span : Cond := .codeWith y_L_span c_L_span 6 (some .int) h_L_span
set_option maxRecDepth 20000 in
theorem k_L_span : tk_CS y_L_span w_L_span 6 5 := ⟨⟨tk_isC_with, tk_ac 384 rfl (by decide +kernel), tk_at 0 (by decide +kernel) (by decide +kernel), by decide, by decide +kernel, by decide +kernel⟩, tk_at 383 (by decide +kernel) (by decide +kernel)⟩
abbrev c_CP_span : ByteArray := prog_1_method_7_code
def y_CP_span : MethodName := ⟨"ChargePlans", "span", "(IIII)V"⟩
abbrev w_CP_span : Cond := .code y_CP_span c_CP_span 5 none
set_option maxRecDepth 20000 in
theorem k_CP_span : tk_CV y_CP_span w_CP_span 5 4 := ⟨⟨tk_isC_code, tk_ac 388 rfl (by decide +kernel), tk_at 1 (by decide +kernel) (by decide +kernel), by decide, by decide +kernel, by decide +kernel⟩, tk_at 386 (by decide +kernel) (by decide +kernel), tk_at 387 (by decide +kernel) (by decide +kernel)⟩
abbrev c_L_most : ByteArray := method_9_code
def y_L_most : MethodName := ⟨"ChargePlansLaw", "most", "(LChargePlans;II)I"⟩
abbrev h_L_most : List (Nat × Nat × Nat × Nat) := [(0, 6, 9, 21), (0, 6, 12, 15)]
abbrev w_L_most : Cond := .codeWith y_L_most c_L_most 4 (some .int) h_L_most
set_option maxRecDepth 20000 in
theorem k_L_most : tk_CS y_L_most w_L_most 4 3 := ⟨⟨tk_isC_with, tk_ac 391 rfl (by decide +kernel), tk_at 0 (by decide +kernel) (by decide +kernel), by decide, by decide +kernel, by decide +kernel⟩, tk_at 390 (by decide +kernel) (by decide +kernel)⟩
abbrev c_CP_most : ByteArray := prog_1_method_8_code
def y_CP_most : MethodName := ⟨"ChargePlans", "most", "(II)V"⟩
abbrev w_CP_most : Cond := .code y_CP_most c_CP_most 3 none
set_option maxRecDepth 20000 in
theorem k_CP_most : tk_CV y_CP_most w_CP_most 3 2 := ⟨⟨tk_isC_code, tk_ac 395 rfl (by decide +kernel), tk_at 1 (by decide +kernel) (by decide +kernel), by decide, by decide +kernel, by decide +kernel⟩, tk_at 393 (by decide +kernel) (by decide +kernel), tk_at 394 (by decide +kernel) (by decide +kernel)⟩
abbrev c_L_plan : ByteArray := method_10_code
def y_L_plan : MethodName := ⟨"ChargePlansLaw", "plan", "(LChargePlans;II[J)I"⟩
abbrev h_L_plan : List (Nat × Nat × Nat × Nat) := [(0, 10, 13, 21), (0, 10, 17, 15)]
abbrev w_L_plan : Cond := .codeWith y_L_plan c_L_plan 5 (some .int) h_L_plan
set_option maxRecDepth 20000 in
theorem k_L_plan : tk_CS y_L_plan w_L_plan 5 4 := ⟨⟨tk_isC_with, tk_ac 398 rfl (by decide +kernel), tk_at 0 (by decide +kernel) (by decide +kernel), by decide, by decide +kernel, by decide +kernel⟩, tk_at 397 (by decide +kernel) (by decide +kernel)⟩
abbrev c_CP_plan : ByteArray := prog_1_method_9_code
def y_CP_plan : MethodName := ⟨"ChargePlans", "plan", "(II)I"⟩
abbrev w_CP_plan : Cond := .code y_CP_plan c_CP_plan 3 (some .int)
set_option maxRecDepth 20000 in
theorem k_CP_plan : tk_CV y_CP_plan w_CP_plan 3 2 := ⟨⟨tk_isC_code, tk_ac 402 rfl (by decide +kernel), tk_at 1 (by decide +kernel) (by decide +kernel), by decide, by decide +kernel, by decide +kernel⟩, tk_at 400 (by decide +kernel) (by decide +kernel), tk_at 401 (by decide +kernel) (by decide +kernel)⟩
abbrev c_P_search : ByteArray := prog_5_method_2_code
def y_P_search : MethodName := ⟨"ChargePlans$Planning", "search", "(LChargePlans$Goods;LChargePlans$Heats;II)V"⟩
abbrev w_P_search : Cond := .code y_P_search c_P_search 5 none
set_option maxRecDepth 20000 in
theorem k_P_search : tk_CV y_P_search w_P_search 5 4 := ⟨⟨tk_isC_code, tk_ac 406 rfl (by decide +kernel), tk_at 4 (by decide +kernel) (by decide +kernel), by decide, by decide +kernel, by decide +kernel⟩, tk_at 405 (by decide +kernel) (by decide +kernel), tk_sl (by decide +kernel) (by decide +kernel)⟩
abbrev c_S_load : ByteArray := prog_6_method_2_code
def y_S_load : MethodName := ⟨"ChargePlans$Sums", "load", "(LChargePlans$Goods;LChargePlans$Heats;I)V"⟩
abbrev w_S_load : Cond := .code y_S_load c_S_load 5 none
set_option maxRecDepth 20000 in
theorem k_S_load : tk_CV y_S_load w_S_load 5 3 := ⟨⟨tk_isC_code, tk_ac 410 rfl (by decide +kernel), tk_at 5 (by decide +kernel) (by decide +kernel), by decide, by decide +kernel, by decide +kernel⟩, tk_at 409 (by decide +kernel) (by decide +kernel), tk_sl (by decide +kernel) (by decide +kernel)⟩
abbrev c_G_room : ByteArray := prog_3_method_3_code
def y_G_room : MethodName := ⟨"ChargePlans$Goods", "room", "(I)I"⟩
abbrev w_G_room : Cond := .code y_G_room c_G_room 2 (some .int)
set_option maxRecDepth 20000 in
theorem k_G_room : tk_CV y_G_room w_G_room 2 1 := ⟨⟨tk_isC_code, tk_ac 414 rfl (by decide +kernel), tk_at 2 (by decide +kernel) (by decide +kernel), by decide, by decide +kernel, by decide +kernel⟩, tk_at 413 (by decide +kernel) (by decide +kernel), tk_sl (by decide +kernel) (by decide +kernel)⟩
abbrev c_S_loadElements : ByteArray := prog_6_method_3_code
def y_S_loadElements : MethodName := ⟨"ChargePlans$Sums", "loadElements", "(LChargePlans$Goods;LChargePlans$Heats;II)V"⟩
abbrev w_S_loadElements : Cond := .code y_S_loadElements c_S_loadElements 9 none
set_option maxRecDepth 20000 in
theorem k_S_loadElements : tk_CV y_S_loadElements w_S_loadElements 9 4 := ⟨⟨tk_isC_code, tk_ac 421 rfl (by decide +kernel), tk_at 5 (by decide +kernel) (by decide +kernel), by decide, by decide +kernel, by decide +kernel⟩, tk_at 420 (by decide +kernel) (by decide +kernel), tk_sl (by decide +kernel) (by decide +kernel)⟩
abbrev c_P_tryNumbers : ByteArray := prog_5_method_3_code
def y_P_tryNumbers : MethodName := ⟨"ChargePlans$Planning", "tryNumbers", "(I)V"⟩
abbrev w_P_tryNumbers : Cond := .code y_P_tryNumbers c_P_tryNumbers 3 none
set_option maxRecDepth 20000 in
theorem k_P_tryNumbers : tk_CV y_P_tryNumbers w_P_tryNumbers 3 1 := ⟨⟨tk_isC_code, tk_ac 425 rfl (by decide +kernel), tk_at 4 (by decide +kernel) (by decide +kernel), by decide, by decide +kernel, by decide +kernel⟩, tk_at 424 (by decide +kernel) (by decide +kernel), tk_sl (by decide +kernel) (by decide +kernel)⟩
abbrev c_P_keepIfAllHold : ByteArray := prog_5_method_5_code
def y_P_keepIfAllHold : MethodName := ⟨"ChargePlans$Planning", "keepIfAllHold", "()V"⟩
abbrev w_P_keepIfAllHold : Cond := .code y_P_keepIfAllHold c_P_keepIfAllHold 2 none
set_option maxRecDepth 20000 in
theorem k_P_keepIfAllHold : tk_CV y_P_keepIfAllHold w_P_keepIfAllHold 2 0 := ⟨⟨tk_isC_code, tk_ac 429 rfl (by decide +kernel), tk_at 4 (by decide +kernel) (by decide +kernel), by decide, by decide +kernel, by decide +kernel⟩, tk_at 428 (by decide +kernel) (by decide +kernel), tk_sl (by decide +kernel) (by decide +kernel)⟩
abbrev c_S_broken : ByteArray := prog_6_method_8_code
def y_S_broken : MethodName := ⟨"ChargePlans$Sums", "broken", "()I"⟩
abbrev w_S_broken : Cond := .code y_S_broken c_S_broken 3 (some .int)
set_option maxRecDepth 20000 in
theorem k_S_broken : tk_CV y_S_broken w_S_broken 3 0 := ⟨⟨tk_isC_code, tk_ac 433 rfl (by decide +kernel), tk_at 5 (by decide +kernel) (by decide +kernel), by decide, by decide +kernel, by decide +kernel⟩, tk_at 432 (by decide +kernel) (by decide +kernel), tk_sl (by decide +kernel) (by decide +kernel)⟩
abbrev c_S_cents : ByteArray := prog_6_method_6_code
def y_S_cents : MethodName := ⟨"ChargePlans$Sums", "cents", "(I)I"⟩
abbrev w_S_cents : Cond := .code y_S_cents c_S_cents 2 (some .int)
set_option maxRecDepth 20000 in
theorem k_S_cents : tk_CV y_S_cents w_S_cents 2 1 := ⟨⟨tk_isC_code, tk_ac 437 rfl (by decide +kernel), tk_at 5 (by decide +kernel) (by decide +kernel), by decide, by decide +kernel, by decide +kernel⟩, tk_at 436 (by decide +kernel) (by decide +kernel), tk_sl (by decide +kernel) (by decide +kernel)⟩
abbrev c_S_settle : ByteArray := prog_6_method_4_code
def y_S_settle : MethodName := ⟨"ChargePlans$Sums", "settle", "(I)V"⟩
abbrev w_S_settle : Cond := .code y_S_settle c_S_settle 4 none
set_option maxRecDepth 20000 in
theorem k_S_settle : tk_CV y_S_settle w_S_settle 4 1 := ⟨⟨tk_isC_code, tk_ac 441 rfl (by decide +kernel), tk_at 5 (by decide +kernel) (by decide +kernel), by decide, by decide +kernel, by decide +kernel⟩, tk_at 440 (by decide +kernel) (by decide +kernel), tk_sl (by decide +kernel) (by decide +kernel)⟩
abbrev c_S_addBundle : ByteArray := prog_6_method_5_code
def y_S_addBundle : MethodName := ⟨"ChargePlans$Sums", "addBundle", "(I)V"⟩
abbrev w_S_addBundle : Cond := .code y_S_addBundle c_S_addBundle 4 none
set_option maxRecDepth 20000 in
theorem k_S_addBundle : tk_CV y_S_addBundle w_S_addBundle 4 1 := ⟨⟨tk_isC_code, tk_ac 445 rfl (by decide +kernel), tk_at 5 (by decide +kernel) (by decide +kernel), by decide, by decide +kernel, by decide +kernel⟩, tk_at 444 (by decide +kernel) (by decide +kernel), tk_sl (by decide +kernel) (by decide +kernel)⟩
abbrev c_P_givenUp : ByteArray := prog_5_method_4_code
def y_P_givenUp : MethodName := ⟨"ChargePlans$Planning", "givenUp", "(I)Z"⟩
abbrev w_P_givenUp : Cond := .code y_P_givenUp c_P_givenUp 2 (some .boolean)
set_option maxRecDepth 20000 in
theorem k_P_givenUp : tk_CV y_P_givenUp w_P_givenUp 2 1 := ⟨⟨tk_isC_code, tk_ac 449 rfl (by decide +kernel), tk_at 4 (by decide +kernel) (by decide +kernel), by decide, by decide +kernel, by decide +kernel⟩, tk_at 448 (by decide +kernel) (by decide +kernel), tk_sl (by decide +kernel) (by decide +kernel)⟩
abbrev c_S_tooHeavy : ByteArray := prog_6_method_7_code
def y_S_tooHeavy : MethodName := ⟨"ChargePlans$Sums", "tooHeavy", "(I)Z"⟩
abbrev w_S_tooHeavy : Cond := .code y_S_tooHeavy c_S_tooHeavy 2 (some .boolean)
set_option maxRecDepth 20000 in
theorem k_S_tooHeavy : tk_CV y_S_tooHeavy w_S_tooHeavy 2 1 := ⟨⟨tk_isC_code, tk_ac 453 rfl (by decide +kernel), tk_at 5 (by decide +kernel) (by decide +kernel), by decide, by decide +kernel, by decide +kernel⟩, tk_at 452 (by decide +kernel) (by decide +kernel), tk_sl (by decide +kernel) (by decide +kernel)⟩
abbrev c_H_keepPlan : ByteArray := prog_4_method_4_code
def y_H_keepPlan : MethodName := ⟨"ChargePlans$Heats", "keepPlan", "(I[II)V"⟩
abbrev w_H_keepPlan : Cond := .code y_H_keepPlan c_H_keepPlan 5 none
set_option maxRecDepth 20000 in
theorem k_H_keepPlan : tk_CV y_H_keepPlan w_H_keepPlan 5 3 := ⟨⟨tk_isC_code, tk_ac 457 rfl (by decide +kernel), tk_at 3 (by decide +kernel) (by decide +kernel), by decide, by decide +kernel, by decide +kernel⟩, tk_at 456 (by decide +kernel) (by decide +kernel), tk_sl (by decide +kernel) (by decide +kernel)⟩
abbrev c_L_planned : ByteArray := method_11_code
def y_L_planned : MethodName := ⟨"ChargePlansLaw", "planned", "(LChargePlans;I[J)I"⟩
abbrev h_L_planned : List (Nat × Nat × Nat × Nat) := [(0, 9, 12, 21), (0, 9, 15, 13)]
abbrev w_L_planned : Cond := .codeWith y_L_planned c_L_planned 4 (some .int) h_L_planned
set_option maxRecDepth 20000 in
theorem k_L_planned : tk_CS y_L_planned w_L_planned 4 3 := ⟨⟨tk_isC_with, tk_ac 460 rfl (by decide +kernel), tk_at 0 (by decide +kernel) (by decide +kernel), by decide, by decide +kernel, by decide +kernel⟩, tk_at 459 (by decide +kernel) (by decide +kernel)⟩
abbrev c_CP_planned : ByteArray := prog_1_method_10_code
def y_CP_planned : MethodName := ⟨"ChargePlans", "planned", "(I)I"⟩
abbrev w_CP_planned : Cond := .code y_CP_planned c_CP_planned 2 (some .int)
set_option maxRecDepth 20000 in
theorem k_CP_planned : tk_CV y_CP_planned w_CP_planned 2 1 := ⟨⟨tk_isC_code, tk_ac 464 rfl (by decide +kernel), tk_at 1 (by decide +kernel) (by decide +kernel), by decide, by decide +kernel, by decide +kernel⟩, tk_at 462 (by decide +kernel) (by decide +kernel), tk_at 463 (by decide +kernel) (by decide +kernel)⟩
abbrev c_L_amount : ByteArray := method_12_code
def y_L_amount : MethodName := ⟨"ChargePlansLaw", "amount", "(LChargePlans;II[J)I"⟩
abbrev h_L_amount : List (Nat × Nat × Nat × Nat) := [(0, 10, 13, 21), (0, 10, 17, 13)]
abbrev w_L_amount : Cond := .codeWith y_L_amount c_L_amount 5 (some .int) h_L_amount
set_option maxRecDepth 20000 in
theorem k_L_amount : tk_CS y_L_amount w_L_amount 5 4 := ⟨⟨tk_isC_with, tk_ac 467 rfl (by decide +kernel), tk_at 0 (by decide +kernel) (by decide +kernel), by decide, by decide +kernel, by decide +kernel⟩, tk_at 466 (by decide +kernel) (by decide +kernel)⟩
abbrev c_CP_amount : ByteArray := prog_1_method_11_code
def y_CP_amount : MethodName := ⟨"ChargePlans", "amount", "(II)I"⟩
abbrev w_CP_amount : Cond := .code y_CP_amount c_CP_amount 3 (some .int)
set_option maxRecDepth 20000 in
theorem k_CP_amount : tk_CV y_CP_amount w_CP_amount 3 2 := ⟨⟨tk_isC_code, tk_ac 471 rfl (by decide +kernel), tk_at 1 (by decide +kernel) (by decide +kernel), by decide, by decide +kernel, by decide +kernel⟩, tk_at 469 (by decide +kernel) (by decide +kernel), tk_at 470 (by decide +kernel) (by decide +kernel)⟩
abbrev c_H_hasPlan : ByteArray := prog_4_method_3_code
def y_H_hasPlan : MethodName := ⟨"ChargePlans$Heats", "hasPlan", "(I)Z"⟩
abbrev w_H_hasPlan : Cond := .code y_H_hasPlan c_H_hasPlan 2 (some .boolean)
set_option maxRecDepth 20000 in
theorem k_H_hasPlan : tk_CV y_H_hasPlan w_H_hasPlan 2 1 := ⟨⟨tk_isC_code, tk_ac 475 rfl (by decide +kernel), tk_at 3 (by decide +kernel) (by decide +kernel), by decide, by decide +kernel, by decide +kernel⟩, tk_at 474 (by decide +kernel) (by decide +kernel), tk_sl (by decide +kernel) (by decide +kernel)⟩
abbrev c_L_worst : ByteArray := method_13_code
def y_L_worst : MethodName := ⟨"ChargePlansLaw", "worst", "(LChargePlans;IIII[J)I"⟩
abbrev h_L_worst : List (Nat × Nat × Nat × Nat) := [(0, 13, 16, 21), (0, 13, 20, 13), (0, 13, 24, 31)]
abbrev w_L_worst : Cond := .codeWith y_L_worst c_L_worst 7 (some .int) h_L_worst
set_option maxRecDepth 20000 in
theorem k_L_worst : tk_CS y_L_worst w_L_worst 7 6 := ⟨⟨tk_isC_with, tk_ac 478 rfl (by decide +kernel), tk_at 0 (by decide +kernel) (by decide +kernel), by decide, by decide +kernel, by decide +kernel⟩, tk_at 477 (by decide +kernel) (by decide +kernel)⟩
abbrev c_CP_worst : ByteArray := prog_1_method_12_code
def y_CP_worst : MethodName := ⟨"ChargePlans", "worst", "(IIII)J"⟩
abbrev w_CP_worst : Cond := .code y_CP_worst c_CP_worst 9 (some .long)
set_option maxRecDepth 20000 in
theorem k_CP_worst : tk_CV y_CP_worst w_CP_worst 9 4 := ⟨⟨tk_isC_code, tk_ac 482 rfl (by decide +kernel), tk_at 1 (by decide +kernel) (by decide +kernel), by decide, by decide +kernel, by decide +kernel⟩, tk_at 480 (by decide +kernel) (by decide +kernel), tk_at 481 (by decide +kernel) (by decide +kernel)⟩
abbrev c_CP_plannedKilos : ByteArray := prog_1_method_18_code
def y_CP_plannedKilos : MethodName := ⟨"ChargePlans", "plannedKilos", "(I)J"⟩
abbrev w_CP_plannedKilos : Cond := .code y_CP_plannedKilos c_CP_plannedKilos 5 (some .long)
set_option maxRecDepth 20000 in
theorem k_CP_plannedKilos : tk_CV y_CP_plannedKilos w_CP_plannedKilos 5 1 := ⟨⟨tk_isC_code, tk_ac 486 rfl (by decide +kernel), tk_at 1 (by decide +kernel) (by decide +kernel), by decide, by decide +kernel, by decide +kernel⟩, tk_at 485 (by decide +kernel) (by decide +kernel), tk_sl (by decide +kernel) (by decide +kernel)⟩
abbrev c_CP_plannedShares : ByteArray := prog_1_method_19_code
def y_CP_plannedShares : MethodName := ⟨"ChargePlans", "plannedShares", "(II[I)J"⟩
abbrev w_CP_plannedShares : Cond := .code y_CP_plannedShares c_CP_plannedShares 9 (some .long)
set_option maxRecDepth 20000 in
theorem k_CP_plannedShares : tk_CV y_CP_plannedShares w_CP_plannedShares 9 3 := ⟨⟨tk_isC_code, tk_ac 490 rfl (by decide +kernel), tk_at 1 (by decide +kernel) (by decide +kernel), by decide, by decide +kernel, by decide +kernel⟩, tk_at 489 (by decide +kernel) (by decide +kernel), tk_sl (by decide +kernel) (by decide +kernel)⟩
abbrev c_CP_commonDivisor : ByteArray := prog_1_method_20_code
def y_CP_commonDivisor : MethodName := ⟨"ChargePlans", "commonDivisor", "(JJ)J"⟩
abbrev w_CP_commonDivisor : Cond := .code y_CP_commonDivisor c_CP_commonDivisor 11 (some .long)
set_option maxRecDepth 20000 in
theorem k_CP_commonDivisor : tk_CS y_CP_commonDivisor w_CP_commonDivisor 11 2 := ⟨⟨tk_isC_code, tk_ac 493 rfl (by decide +kernel), tk_at 1 (by decide +kernel) (by decide +kernel), by decide, by decide +kernel, by decide +kernel⟩, tk_at 492 (by decide +kernel) (by decide +kernel)⟩
abbrev c_L_bound : ByteArray := method_14_code
def y_L_bound : MethodName := ⟨"ChargePlansLaw", "bound", "(LChargePlans;I[J)I"⟩
abbrev h_L_bound : List (Nat × Nat × Nat × Nat) := [(0, 8, 11, 21), (0, 8, 14, 31)]
abbrev w_L_bound : Cond := .codeWith y_L_bound c_L_bound 4 (some .int) h_L_bound
set_option maxRecDepth 20000 in
theorem k_L_bound : tk_CS y_L_bound w_L_bound 4 3 := ⟨⟨tk_isC_with, tk_ac 499 rfl (by decide +kernel), tk_at 0 (by decide +kernel) (by decide +kernel), by decide, by decide +kernel, by decide +kernel⟩, tk_at 498 (by decide +kernel) (by decide +kernel)⟩
abbrev c_CP_bound : ByteArray := prog_1_method_13_code
def y_CP_bound : MethodName := ⟨"ChargePlans", "bound", "(I)J"⟩
abbrev w_CP_bound : Cond := .code y_CP_bound c_CP_bound 9 (some .long)
set_option maxRecDepth 20000 in
theorem k_CP_bound : tk_CV y_CP_bound w_CP_bound 9 1 := ⟨⟨tk_isC_code, tk_ac 503 rfl (by decide +kernel), tk_at 1 (by decide +kernel) (by decide +kernel), by decide, by decide +kernel, by decide +kernel⟩, tk_at 501 (by decide +kernel) (by decide +kernel), tk_at 502 (by decide +kernel) (by decide +kernel)⟩
abbrev c_L_clash : ByteArray := method_15_code
def y_L_clash : MethodName := ⟨"ChargePlansLaw", "clash", "(LChargePlans;I[J)I"⟩
abbrev h_L_clash : List (Nat × Nat × Nat × Nat) := [(0, 9, 12, 21)]
abbrev w_L_clash : Cond := .codeWith y_L_clash c_L_clash 4 (some .int) h_L_clash
set_option maxRecDepth 20000 in
theorem k_L_clash : tk_CS y_L_clash w_L_clash 4 3 := ⟨⟨tk_isC_with, tk_ac 511 rfl (by decide +kernel), tk_at 0 (by decide +kernel) (by decide +kernel), by decide, by decide +kernel, by decide +kernel⟩, tk_at 510 (by decide +kernel) (by decide +kernel)⟩
abbrev c_CP_clash : ByteArray := prog_1_method_14_code
def y_CP_clash : MethodName := ⟨"ChargePlans", "clash", "(I)I"⟩
abbrev w_CP_clash : Cond := .code y_CP_clash c_CP_clash 2 (some .int)
set_option maxRecDepth 20000 in
theorem k_CP_clash : tk_CV y_CP_clash w_CP_clash 2 1 := ⟨⟨tk_isC_code, tk_ac 515 rfl (by decide +kernel), tk_at 1 (by decide +kernel) (by decide +kernel), by decide, by decide +kernel, by decide +kernel⟩, tk_at 513 (by decide +kernel) (by decide +kernel), tk_at 514 (by decide +kernel) (by decide +kernel)⟩
abbrev c_C_find : ByteArray := prog_2_method_2_code
def y_C_find : MethodName := ⟨"ChargePlans$Clashing", "find", "(LChargePlans$Goods;LChargePlans$Heats;I)I"⟩
abbrev w_C_find : Cond := .code y_C_find c_C_find 7 (some .int)
set_option maxRecDepth 20000 in
theorem k_C_find : tk_CV y_C_find w_C_find 7 3 := ⟨⟨tk_isC_code, tk_ac 519 rfl (by decide +kernel), tk_at 6 (by decide +kernel) (by decide +kernel), by decide, by decide +kernel, by decide +kernel⟩, tk_at 518 (by decide +kernel) (by decide +kernel), tk_sl (by decide +kernel) (by decide +kernel)⟩
abbrev c_C_walk : ByteArray := prog_2_method_3_code
def y_C_walk : MethodName := ⟨"ChargePlans$Clashing", "walk", "(I)V"⟩
abbrev w_C_walk : Cond := .code y_C_walk c_C_walk 3 none
set_option maxRecDepth 20000 in
theorem k_C_walk : tk_CV y_C_walk w_C_walk 3 1 := ⟨⟨tk_isC_code, tk_ac 524 rfl (by decide +kernel), tk_at 6 (by decide +kernel) (by decide +kernel), by decide, by decide +kernel, by decide +kernel⟩, tk_at 523 (by decide +kernel) (by decide +kernel), tk_sl (by decide +kernel) (by decide +kernel)⟩
abbrev c_C_someChargeHolds : ByteArray := prog_2_method_4_code
def y_C_someChargeHolds : MethodName := ⟨"ChargePlans$Clashing", "someChargeHolds", "(I)Z"⟩
abbrev w_C_someChargeHolds : Cond := .code y_C_someChargeHolds c_C_someChargeHolds 3 (some .boolean)
set_option maxRecDepth 20000 in
theorem k_C_someChargeHolds : tk_CV y_C_someChargeHolds w_C_someChargeHolds 3 1 := ⟨⟨tk_isC_code, tk_ac 531 rfl (by decide +kernel), tk_at 6 (by decide +kernel) (by decide +kernel), by decide, by decide +kernel, by decide +kernel⟩, tk_at 530 (by decide +kernel) (by decide +kernel), tk_sl (by decide +kernel) (by decide +kernel)⟩
abbrev c_L_take : ByteArray := method_16_code
def y_L_take : MethodName := ⟨"ChargePlansLaw", "take", "(LChargePlans;I[J)I"⟩
abbrev h_L_take : List (Nat × Nat × Nat × Nat) := [(0, 9, 12, 21), (0, 9, 15, 13), (0, 9, 18, 31)]
abbrev w_L_take : Cond := .codeWith y_L_take c_L_take 4 (some .int) h_L_take
set_option maxRecDepth 20000 in
theorem k_L_take : tk_CS y_L_take w_L_take 4 3 := ⟨⟨tk_isC_with, tk_ac 534 rfl (by decide +kernel), tk_at 0 (by decide +kernel) (by decide +kernel), by decide, by decide +kernel, by decide +kernel⟩, tk_at 533 (by decide +kernel) (by decide +kernel)⟩
abbrev c_CP_take : ByteArray := prog_1_method_15_code
def y_CP_take : MethodName := ⟨"ChargePlans", "take", "(I)I"⟩
abbrev w_CP_take : Cond := .code y_CP_take c_CP_take 3 (some .int)
set_option maxRecDepth 20000 in
theorem k_CP_take : tk_CV y_CP_take w_CP_take 3 1 := ⟨⟨tk_isC_code, tk_ac 538 rfl (by decide +kernel), tk_at 1 (by decide +kernel) (by decide +kernel), by decide, by decide +kernel, by decide +kernel⟩, tk_at 536 (by decide +kernel) (by decide +kernel), tk_at 537 (by decide +kernel) (by decide +kernel)⟩
abbrev c_CP_enoughLeft : ByteArray := prog_1_method_17_code
def y_CP_enoughLeft : MethodName := ⟨"ChargePlans", "enoughLeft", "(I)Z"⟩
abbrev w_CP_enoughLeft : Cond := .code y_CP_enoughLeft c_CP_enoughLeft 3 (some .boolean)
set_option maxRecDepth 20000 in
theorem k_CP_enoughLeft : tk_CV y_CP_enoughLeft w_CP_enoughLeft 3 1 := ⟨⟨tk_isC_code, tk_ac 542 rfl (by decide +kernel), tk_at 1 (by decide +kernel) (by decide +kernel), by decide, by decide +kernel, by decide +kernel⟩, tk_at 541 (by decide +kernel) (by decide +kernel), tk_sl (by decide +kernel) (by decide +kernel)⟩
abbrev c_L_stock : ByteArray := method_17_code
def y_L_stock : MethodName := ⟨"ChargePlansLaw", "stock", "(LChargePlans;I[J)I"⟩
abbrev h_L_stock : List (Nat × Nat × Nat × Nat) := [(0, 9, 12, 21)]
abbrev w_L_stock : Cond := .codeWith y_L_stock c_L_stock 4 (some .int) h_L_stock
set_option maxRecDepth 20000 in
theorem k_L_stock : tk_CS y_L_stock w_L_stock 4 3 := ⟨⟨tk_isC_with, tk_ac 545 rfl (by decide +kernel), tk_at 0 (by decide +kernel) (by decide +kernel), by decide, by decide +kernel, by decide +kernel⟩, tk_at 544 (by decide +kernel) (by decide +kernel)⟩
abbrev c_CP_stock : ByteArray := prog_1_method_16_code
def y_CP_stock : MethodName := ⟨"ChargePlans", "stock", "(I)I"⟩
abbrev w_CP_stock : Cond := .code y_CP_stock c_CP_stock 2 (some .int)
set_option maxRecDepth 20000 in
theorem k_CP_stock : tk_CV y_CP_stock w_CP_stock 2 1 := ⟨⟨tk_isC_code, tk_ac 549 rfl (by decide +kernel), tk_at 1 (by decide +kernel) (by decide +kernel), by decide, by decide +kernel, by decide +kernel⟩, tk_at 547 (by decide +kernel) (by decide +kernel), tk_at 548 (by decide +kernel) (by decide +kernel)⟩
abbrev c_M_init : ByteArray := prog_8_method_1_code
def y_M_init : MethodName := ⟨"ChargePlansModel", "<init>", "()V"⟩
abbrev w_M_init : Cond := .code y_M_init c_M_init 1 none
set_option maxRecDepth 20000 in
theorem k_M_init : tk_CI y_M_init w_M_init 1 0 := ⟨⟨tk_isC_code, tk_ac 554 rfl (by decide +kernel), tk_at 7 (by decide +kernel) (by decide +kernel), by decide, by decide +kernel, by decide +kernel⟩, tk_at 553 (by decide +kernel) (by decide +kernel), rfl, _, rfl⟩
abbrev c_M_thrown : ByteArray := prog_8_method_2_code
def y_M_thrown : MethodName := ⟨"ChargePlansModel", "thrown", "()I"⟩
abbrev w_M_thrown : Cond := .code y_M_thrown c_M_thrown 1 (some .int)
set_option maxRecDepth 20000 in
theorem k_M_thrown : tk_CV y_M_thrown w_M_thrown 1 0 := ⟨⟨tk_isC_code, tk_ac 624 rfl (by decide +kernel), tk_at 7 (by decide +kernel) (by decide +kernel), by decide, by decide +kernel, by decide +kernel⟩, tk_at 622 (by decide +kernel) (by decide +kernel), tk_at 623 (by decide +kernel) (by decide +kernel)⟩
abbrev c_M_good : ByteArray := prog_8_method_7_code
def y_M_good : MethodName := ⟨"ChargePlansModel", "good", "(III)I"⟩
abbrev w_M_good : Cond := .code y_M_good c_M_good 4 (some .int)
set_option maxRecDepth 20000 in
theorem k_M_good : tk_CV y_M_good w_M_good 4 3 := ⟨⟨tk_isC_code, tk_ac 628 rfl (by decide +kernel), tk_at 7 (by decide +kernel) (by decide +kernel), by decide, by decide +kernel, by decide +kernel⟩, tk_at 626 (by decide +kernel) (by decide +kernel), tk_at 627 (by decide +kernel) (by decide +kernel)⟩
abbrev c_M_in : ByteArray := prog_8_method_4_code
def y_M_in : MethodName := ⟨"ChargePlansModel", "in", "(JJJ)Z"⟩
abbrev w_M_in : Cond := .code y_M_in c_M_in 6 (some .boolean)
set_option maxRecDepth 20000 in
theorem k_M_in : tk_CS y_M_in w_M_in 6 3 := ⟨⟨tk_isC_code, tk_ac 632 rfl (by decide +kernel), tk_at 7 (by decide +kernel) (by decide +kernel), by decide, by decide +kernel, by decide +kernel⟩, tk_at 631 (by decide +kernel) (by decide +kernel)⟩
abbrev c_M_throwing : ByteArray := prog_8_method_3_code
def y_M_throwing : MethodName := ⟨"ChargePlansModel", "throwing", "(ZZZ)Z"⟩
abbrev w_M_throwing : Cond := .code y_M_throwing c_M_throwing 4 (some .boolean)
set_option maxRecDepth 20000 in
theorem k_M_throwing : tk_CV y_M_throwing w_M_throwing 4 3 := ⟨⟨tk_isC_code, tk_ac 638 rfl (by decide +kernel), tk_at 7 (by decide +kernel) (by decide +kernel), by decide, by decide +kernel, by decide +kernel⟩, tk_at 637 (by decide +kernel) (by decide +kernel), tk_sl (by decide +kernel) (by decide +kernel)⟩
abbrev c_M_element : ByteArray := prog_8_method_9_code
def y_M_element : MethodName := ⟨"ChargePlansModel", "element", "(IIII)V"⟩
abbrev w_M_element : Cond := .code y_M_element c_M_element 5 none
set_option maxRecDepth 20000 in
theorem k_M_element : tk_CV y_M_element w_M_element 5 4 := ⟨⟨tk_isC_code, tk_ac 642 rfl (by decide +kernel), tk_at 7 (by decide +kernel) (by decide +kernel), by decide, by decide +kernel, by decide +kernel⟩, tk_at 640 (by decide +kernel) (by decide +kernel), tk_at 641 (by decide +kernel) (by decide +kernel)⟩
abbrev c_M_isGood : ByteArray := prog_8_method_5_code
def y_M_isGood : MethodName := ⟨"ChargePlansModel", "isGood", "(I)Z"⟩
abbrev w_M_isGood : Cond := .code y_M_isGood c_M_isGood 2 (some .boolean)
set_option maxRecDepth 20000 in
theorem k_M_isGood : tk_CV y_M_isGood w_M_isGood 2 1 := ⟨⟨tk_isC_code, tk_ac 646 rfl (by decide +kernel), tk_at 7 (by decide +kernel) (by decide +kernel), by decide, by decide +kernel, by decide +kernel⟩, tk_at 645 (by decide +kernel) (by decide +kernel), tk_sl (by decide +kernel) (by decide +kernel)⟩
abbrev c_M_isSpan : ByteArray := prog_8_method_8_code
def y_M_isSpan : MethodName := ⟨"ChargePlansModel", "isSpan", "(II)Z"⟩
abbrev w_M_isSpan : Cond := .code y_M_isSpan c_M_isSpan 2 (some .boolean)
set_option maxRecDepth 20000 in
theorem k_M_isSpan : tk_CS y_M_isSpan w_M_isSpan 2 2 := ⟨⟨tk_isC_code, tk_ac 650 rfl (by decide +kernel), tk_at 7 (by decide +kernel) (by decide +kernel), by decide, by decide +kernel, by decide +kernel⟩, tk_at 649 (by decide +kernel) (by decide +kernel)⟩
abbrev c_M_limit : ByteArray := prog_8_method_10_code
def y_M_limit : MethodName := ⟨"ChargePlansModel", "limit", "(II)V"⟩
abbrev w_M_limit : Cond := .code y_M_limit c_M_limit 3 none
set_option maxRecDepth 20000 in
theorem k_M_limit : tk_CV y_M_limit w_M_limit 3 2 := ⟨⟨tk_isC_code, tk_ac 655 rfl (by decide +kernel), tk_at 7 (by decide +kernel) (by decide +kernel), by decide, by decide +kernel, by decide +kernel⟩, tk_at 653 (by decide +kernel) (by decide +kernel), tk_at 654 (by decide +kernel) (by decide +kernel)⟩
abbrev c_M_arrive : ByteArray := prog_8_method_11_code
def y_M_arrive : MethodName := ⟨"ChargePlansModel", "arrive", "(II)I"⟩
abbrev w_M_arrive : Cond := .code y_M_arrive c_M_arrive 4 (some .int)
set_option maxRecDepth 20000 in
theorem k_M_arrive : tk_CV y_M_arrive w_M_arrive 4 2 := ⟨⟨tk_isC_code, tk_ac 659 rfl (by decide +kernel), tk_at 7 (by decide +kernel) (by decide +kernel), by decide, by decide +kernel, by decide +kernel⟩, tk_at 657 (by decide +kernel) (by decide +kernel), tk_at 658 (by decide +kernel) (by decide +kernel)⟩
abbrev c_M_stock : ByteArray := prog_8_method_12_code
def y_M_stock : MethodName := ⟨"ChargePlansModel", "stock", "(I)I"⟩
abbrev w_M_stock : Cond := .code y_M_stock c_M_stock 2 (some .int)
set_option maxRecDepth 20000 in
theorem k_M_stock : tk_CV y_M_stock w_M_stock 2 1 := ⟨⟨tk_isC_code, tk_ac 663 rfl (by decide +kernel), tk_at 7 (by decide +kernel) (by decide +kernel), by decide, by decide +kernel, by decide +kernel⟩, tk_at 661 (by decide +kernel) (by decide +kernel), tk_at 662 (by decide +kernel) (by decide +kernel)⟩
abbrev c_M_heat : ByteArray := prog_8_method_13_code
def y_M_heat : MethodName := ⟨"ChargePlansModel", "heat", "(II)I"⟩
abbrev w_M_heat : Cond := .code y_M_heat c_M_heat 4 (some .int)
set_option maxRecDepth 20000 in
theorem k_M_heat : tk_CV y_M_heat w_M_heat 4 2 := ⟨⟨tk_isC_code, tk_ac 667 rfl (by decide +kernel), tk_at 7 (by decide +kernel) (by decide +kernel), by decide, by decide +kernel, by decide +kernel⟩, tk_at 665 (by decide +kernel) (by decide +kernel), tk_at 666 (by decide +kernel) (by decide +kernel)⟩
abbrev c_M_span : ByteArray := prog_8_method_14_code
def y_M_span : MethodName := ⟨"ChargePlansModel", "span", "(IIII)V"⟩
abbrev w_M_span : Cond := .code y_M_span c_M_span 5 none
set_option maxRecDepth 20000 in
theorem k_M_span : tk_CV y_M_span w_M_span 5 4 := ⟨⟨tk_isC_code, tk_ac 671 rfl (by decide +kernel), tk_at 7 (by decide +kernel) (by decide +kernel), by decide, by decide +kernel, by decide +kernel⟩, tk_at 669 (by decide +kernel) (by decide +kernel), tk_at 670 (by decide +kernel) (by decide +kernel)⟩
abbrev c_M_isHeat : ByteArray := prog_8_method_6_code
def y_M_isHeat : MethodName := ⟨"ChargePlansModel", "isHeat", "(I)Z"⟩
abbrev w_M_isHeat : Cond := .code y_M_isHeat c_M_isHeat 2 (some .boolean)
set_option maxRecDepth 20000 in
theorem k_M_isHeat : tk_CV y_M_isHeat w_M_isHeat 2 1 := ⟨⟨tk_isC_code, tk_ac 675 rfl (by decide +kernel), tk_at 7 (by decide +kernel) (by decide +kernel), by decide, by decide +kernel, by decide +kernel⟩, tk_at 674 (by decide +kernel) (by decide +kernel), tk_sl (by decide +kernel) (by decide +kernel)⟩
abbrev c_M_most : ByteArray := prog_8_method_15_code
def y_M_most : MethodName := ⟨"ChargePlansModel", "most", "(II)V"⟩
abbrev w_M_most : Cond := .code y_M_most c_M_most 3 none
set_option maxRecDepth 20000 in
theorem k_M_most : tk_CV y_M_most w_M_most 3 2 := ⟨⟨tk_isC_code, tk_ac 679 rfl (by decide +kernel), tk_at 7 (by decide +kernel) (by decide +kernel), by decide, by decide +kernel, by decide +kernel⟩, tk_at 677 (by decide +kernel) (by decide +kernel), tk_at 678 (by decide +kernel) (by decide +kernel)⟩
abbrev c_M_plan : ByteArray := prog_8_method_20_code
def y_M_plan : MethodName := ⟨"ChargePlansModel", "plan", "(II)I"⟩
abbrev w_M_plan : Cond := .code y_M_plan c_M_plan 5 (some .int)
set_option maxRecDepth 20000 in
theorem k_M_plan : tk_CV y_M_plan w_M_plan 5 2 := ⟨⟨tk_isC_code, tk_ac 684 rfl (by decide +kernel), tk_at 7 (by decide +kernel) (by decide +kernel), by decide, by decide +kernel, by decide +kernel⟩, tk_at 682 (by decide +kernel) (by decide +kernel), tk_at 683 (by decide +kernel) (by decide +kernel)⟩
abbrev c_M_top : ByteArray := prog_8_method_16_code
def y_M_top : MethodName := ⟨"ChargePlansModel", "top", "(I)I"⟩
abbrev w_M_top : Cond := .code y_M_top c_M_top 2 (some .int)
set_option maxRecDepth 20000 in
theorem k_M_top : tk_CV y_M_top w_M_top 2 1 := ⟨⟨tk_isC_code, tk_ac 688 rfl (by decide +kernel), tk_at 7 (by decide +kernel) (by decide +kernel), by decide, by decide +kernel, by decide +kernel⟩, tk_at 687 (by decide +kernel) (by decide +kernel), tk_sl (by decide +kernel) (by decide +kernel)⟩
abbrev c_M_sum : ByteArray := prog_8_method_17_code
def y_M_sum : MethodName := ⟨"ChargePlansModel", "sum", "(II)I"⟩
abbrev w_M_sum : Cond := .code y_M_sum c_M_sum 5 (some .int)
set_option maxRecDepth 20000 in
theorem k_M_sum : tk_CV y_M_sum w_M_sum 5 2 := ⟨⟨tk_isC_code, tk_ac 692 rfl (by decide +kernel), tk_at 7 (by decide +kernel) (by decide +kernel), by decide, by decide +kernel, by decide +kernel⟩, tk_at 691 (by decide +kernel) (by decide +kernel), tk_sl (by decide +kernel) (by decide +kernel)⟩
abbrev c_M_broken : ByteArray := prog_8_method_18_code
def y_M_broken : MethodName := ⟨"ChargePlansModel", "broken", "(I)I"⟩
abbrev w_M_broken : Cond := .code y_M_broken c_M_broken 10 (some .int)
set_option maxRecDepth 20000 in
theorem k_M_broken : tk_CV y_M_broken w_M_broken 10 1 := ⟨⟨tk_isC_code, tk_ac 696 rfl (by decide +kernel), tk_at 7 (by decide +kernel) (by decide +kernel), by decide, by decide +kernel, by decide +kernel⟩, tk_at 695 (by decide +kernel) (by decide +kernel), tk_sl (by decide +kernel) (by decide +kernel)⟩
abbrev c_M_keep : ByteArray := prog_8_method_19_code
def y_M_keep : MethodName := ⟨"ChargePlansModel", "keep", "(I)V"⟩
abbrev w_M_keep : Cond := .code y_M_keep c_M_keep 3 none
set_option maxRecDepth 20000 in
theorem k_M_keep : tk_CV y_M_keep w_M_keep 3 1 := ⟨⟨tk_isC_code, tk_ac 700 rfl (by decide +kernel), tk_at 7 (by decide +kernel) (by decide +kernel), by decide, by decide +kernel, by decide +kernel⟩, tk_at 699 (by decide +kernel) (by decide +kernel), tk_sl (by decide +kernel) (by decide +kernel)⟩
abbrev c_M_planned : ByteArray := prog_8_method_21_code
def y_M_planned : MethodName := ⟨"ChargePlansModel", "planned", "(I)I"⟩
abbrev w_M_planned : Cond := .code y_M_planned c_M_planned 2 (some .int)
set_option maxRecDepth 20000 in
theorem k_M_planned : tk_CV y_M_planned w_M_planned 2 1 := ⟨⟨tk_isC_code, tk_ac 704 rfl (by decide +kernel), tk_at 7 (by decide +kernel) (by decide +kernel), by decide, by decide +kernel, by decide +kernel⟩, tk_at 702 (by decide +kernel) (by decide +kernel), tk_at 703 (by decide +kernel) (by decide +kernel)⟩
abbrev c_M_amount : ByteArray := prog_8_method_23_code
def y_M_amount : MethodName := ⟨"ChargePlansModel", "amount", "(II)I"⟩
abbrev w_M_amount : Cond := .code y_M_amount c_M_amount 3 (some .int)
set_option maxRecDepth 20000 in
theorem k_M_amount : tk_CV y_M_amount w_M_amount 3 2 := ⟨⟨tk_isC_code, tk_ac 708 rfl (by decide +kernel), tk_at 7 (by decide +kernel) (by decide +kernel), by decide, by decide +kernel, by decide +kernel⟩, tk_at 706 (by decide +kernel) (by decide +kernel), tk_at 707 (by decide +kernel) (by decide +kernel)⟩
abbrev c_M_hasPlan : ByteArray := prog_8_method_22_code
def y_M_hasPlan : MethodName := ⟨"ChargePlansModel", "hasPlan", "(I)Z"⟩
abbrev w_M_hasPlan : Cond := .code y_M_hasPlan c_M_hasPlan 2 (some .boolean)
set_option maxRecDepth 20000 in
theorem k_M_hasPlan : tk_CV y_M_hasPlan w_M_hasPlan 2 1 := ⟨⟨tk_isC_code, tk_ac 712 rfl (by decide +kernel), tk_at 7 (by decide +kernel) (by decide +kernel), by decide, by decide +kernel, by decide +kernel⟩, tk_at 711 (by decide +kernel) (by decide +kernel), tk_sl (by decide +kernel) (by decide +kernel)⟩
abbrev c_M_worst : ByteArray := prog_8_method_25_code
def y_M_worst : MethodName := ⟨"ChargePlansModel", "worst", "(IIII)J"⟩
abbrev w_M_worst : Cond := .code y_M_worst c_M_worst 13 (some .long)
set_option maxRecDepth 20000 in
theorem k_M_worst : tk_CV y_M_worst w_M_worst 13 4 := ⟨⟨tk_isC_code, tk_ac 716 rfl (by decide +kernel), tk_at 7 (by decide +kernel) (by decide +kernel), by decide, by decide +kernel, by decide +kernel⟩, tk_at 714 (by decide +kernel) (by decide +kernel), tk_at 715 (by decide +kernel) (by decide +kernel)⟩
abbrev c_M_common : ByteArray := prog_8_method_24_code
def y_M_common : MethodName := ⟨"ChargePlansModel", "common", "(JJ)J"⟩
abbrev w_M_common : Cond := .code y_M_common c_M_common 10 (some .long)
set_option maxRecDepth 20000 in
theorem k_M_common : tk_CS y_M_common w_M_common 10 2 := ⟨⟨tk_isC_code, tk_ac 719 rfl (by decide +kernel), tk_at 7 (by decide +kernel) (by decide +kernel), by decide, by decide +kernel, by decide +kernel⟩, tk_at 718 (by decide +kernel) (by decide +kernel)⟩
abbrev c_M_bound : ByteArray := prog_8_method_26_code
def y_M_bound : MethodName := ⟨"ChargePlansModel", "bound", "(I)J"⟩
abbrev w_M_bound : Cond := .code y_M_bound c_M_bound 5 (some .long)
set_option maxRecDepth 20000 in
theorem k_M_bound : tk_CV y_M_bound w_M_bound 5 1 := ⟨⟨tk_isC_code, tk_ac 723 rfl (by decide +kernel), tk_at 7 (by decide +kernel) (by decide +kernel), by decide, by decide +kernel, by decide +kernel⟩, tk_at 721 (by decide +kernel) (by decide +kernel), tk_at 722 (by decide +kernel) (by decide +kernel)⟩
abbrev c_M_clash : ByteArray := prog_8_method_29_code
def y_M_clash : MethodName := ⟨"ChargePlansModel", "clash", "(I)I"⟩
abbrev w_M_clash : Cond := .code y_M_clash c_M_clash 4 (some .int)
set_option maxRecDepth 20000 in
theorem k_M_clash : tk_CV y_M_clash w_M_clash 4 1 := ⟨⟨tk_isC_code, tk_ac 727 rfl (by decide +kernel), tk_at 7 (by decide +kernel) (by decide +kernel), by decide, by decide +kernel, by decide +kernel⟩, tk_at 725 (by decide +kernel) (by decide +kernel), tk_at 726 (by decide +kernel) (by decide +kernel)⟩
abbrev c_M_lookAtAll : ByteArray := prog_8_method_27_code
def y_M_lookAtAll : MethodName := ⟨"ChargePlansModel", "lookAtAll", "(I)V"⟩
abbrev w_M_lookAtAll : Cond := .code y_M_lookAtAll c_M_lookAtAll 4 none
set_option maxRecDepth 20000 in
theorem k_M_lookAtAll : tk_CV y_M_lookAtAll w_M_lookAtAll 4 1 := ⟨⟨tk_isC_code, tk_ac 731 rfl (by decide +kernel), tk_at 7 (by decide +kernel) (by decide +kernel), by decide, by decide +kernel, by decide +kernel⟩, tk_at 730 (by decide +kernel) (by decide +kernel), tk_sl (by decide +kernel) (by decide +kernel)⟩
abbrev c_M_isSome : ByteArray := prog_8_method_28_code
def y_M_isSome : MethodName := ⟨"ChargePlansModel", "isSome", "(I)Z"⟩
abbrev w_M_isSome : Cond := .code y_M_isSome c_M_isSome 4 (some .boolean)
set_option maxRecDepth 20000 in
theorem k_M_isSome : tk_CV y_M_isSome w_M_isSome 4 1 := ⟨⟨tk_isC_code, tk_ac 735 rfl (by decide +kernel), tk_at 7 (by decide +kernel) (by decide +kernel), by decide, by decide +kernel, by decide +kernel⟩, tk_at 734 (by decide +kernel) (by decide +kernel), tk_sl (by decide +kernel) (by decide +kernel)⟩
abbrev c_M_take : ByteArray := prog_8_method_30_code
def y_M_take : MethodName := ⟨"ChargePlansModel", "take", "(I)I"⟩
abbrev w_M_take : Cond := .code y_M_take c_M_take 5 (some .int)
set_option maxRecDepth 20000 in
theorem k_M_take : tk_CV y_M_take w_M_take 5 1 := ⟨⟨tk_isC_code, tk_ac 739 rfl (by decide +kernel), tk_at 7 (by decide +kernel) (by decide +kernel), by decide, by decide +kernel, by decide +kernel⟩, tk_at 737 (by decide +kernel) (by decide +kernel), tk_at 738 (by decide +kernel) (by decide +kernel)⟩
theorem l_L_69 : tk_ML "ChargePlansLaw" 69 y_CP_init := Or.inl (tk_at 18 (by decide +kernel) (by decide +kernel))
theorem l_CP_9 : tk_ML "ChargePlans" 9 y_G_init := Or.inr ⟨"ChargePlans", tk_at 26 (by decide +kernel) (by decide +kernel)⟩
theorem l_CP_18 : tk_ML "ChargePlans" 18 y_H_init := Or.inr ⟨"ChargePlans", tk_at 67 (by decide +kernel) (by decide +kernel)⟩
theorem l_CP_25 : tk_ML "ChargePlans" 25 y_P_init := Or.inr ⟨"ChargePlans", tk_at 110 (by decide +kernel) (by decide +kernel)⟩
theorem l_P_11 : tk_ML "ChargePlans$Planning" 11 y_S_init := Or.inr ⟨"ChargePlans", tk_at 116 (by decide +kernel) (by decide +kernel)⟩
theorem l_CP_32 : tk_ML "ChargePlans" 32 y_C_init := Or.inr ⟨"ChargePlans", tk_at 169 (by decide +kernel) (by decide +kernel)⟩
theorem l_C_11 : tk_ML "ChargePlans$Clashing" 11 y_S_init := Or.inr ⟨"ChargePlans", tk_at 174 (by decide +kernel) (by decide +kernel)⟩
theorem l_L_73 : tk_ML "ChargePlansLaw" 73 y_L_good := Or.inl (tk_at 199 (by decide +kernel) (by decide +kernel))
theorem l_L_7 : tk_ML "ChargePlansLaw" 7 y_CP_good := Or.inl (tk_at 204 (by decide +kernel) (by decide +kernel))
theorem l_CP_41 : tk_ML "ChargePlans" 41 y_CP_requireTurn := Or.inl (tk_at 208 (by decide +kernel) (by decide +kernel))
theorem l_CP_45 : tk_ML "ChargePlans" 45 y_CP_requireRange := Or.inl (tk_at 280 (by decide +kernel) (by decide +kernel))
theorem l_CP_72 : tk_ML "ChargePlans" 72 y_CP_requireArgument := Or.inl (tk_at 283 (by decide +kernel) (by decide +kernel))
theorem l_CP_50 : tk_ML "ChargePlans" 50 y_G_append := Or.inr ⟨"ChargePlans", tk_at 303 (by decide +kernel) (by decide +kernel)⟩
theorem l_L_83 : tk_ML "ChargePlansLaw" 83 y_L_element := Or.inl (tk_at 307 (by decide +kernel) (by decide +kernel))
theorem l_L_17 : tk_ML "ChargePlansLaw" 17 y_CP_element := Or.inl (tk_at 311 (by decide +kernel) (by decide +kernel))
theorem l_CP_54 : tk_ML "ChargePlans" 54 y_CP_requireIndex := Or.inl (tk_at 315 (by decide +kernel) (by decide +kernel))
theorem l_CP_58 : tk_ML "ChargePlans" 58 y_CP_requireSpan := Or.inl (tk_at 334 (by decide +kernel) (by decide +kernel))
theorem l_L_87 : tk_ML "ChargePlansLaw" 87 y_L_limit := Or.inl (tk_at 337 (by decide +kernel) (by decide +kernel))
theorem l_L_23 : tk_ML "ChargePlansLaw" 23 y_CP_limit := Or.inl (tk_at 340 (by decide +kernel) (by decide +kernel))
theorem l_L_91 : tk_ML "ChargePlansLaw" 91 y_L_arrive := Or.inl (tk_at 344 (by decide +kernel) (by decide +kernel))
theorem l_L_27 : tk_ML "ChargePlansLaw" 27 y_CP_arrive := Or.inl (tk_at 348 (by decide +kernel) (by decide +kernel))
theorem l_CP_78 : tk_ML "ChargePlans" 78 y_CP_requireMeaning := Or.inl (tk_at 352 (by decide +kernel) (by decide +kernel))
theorem l_L_95 : tk_ML "ChargePlansLaw" 95 y_L_heat := Or.inl (tk_at 371 (by decide +kernel) (by decide +kernel))
theorem l_L_33 : tk_ML "ChargePlansLaw" 33 y_CP_heat := Or.inl (tk_at 374 (by decide +kernel) (by decide +kernel))
theorem l_CP_82 : tk_ML "ChargePlans" 82 y_H_append := Or.inr ⟨"ChargePlans", tk_at 378 (by decide +kernel) (by decide +kernel)⟩
theorem l_L_98 : tk_ML "ChargePlansLaw" 98 y_L_span := Or.inl (tk_at 382 (by decide +kernel) (by decide +kernel))
theorem l_L_36 : tk_ML "ChargePlansLaw" 36 y_CP_span := Or.inl (tk_at 385 (by decide +kernel) (by decide +kernel))
theorem l_L_101 : tk_ML "ChargePlansLaw" 101 y_L_most := Or.inl (tk_at 389 (by decide +kernel) (by decide +kernel))
theorem l_L_39 : tk_ML "ChargePlansLaw" 39 y_CP_most := Or.inl (tk_at 392 (by decide +kernel) (by decide +kernel))
theorem l_L_104 : tk_ML "ChargePlansLaw" 104 y_L_plan := Or.inl (tk_at 396 (by decide +kernel) (by decide +kernel))
theorem l_L_42 : tk_ML "ChargePlansLaw" 42 y_CP_plan := Or.inl (tk_at 399 (by decide +kernel) (by decide +kernel))
theorem l_CP_90 : tk_ML "ChargePlans" 90 y_P_search := Or.inr ⟨"ChargePlans", tk_at 403 (by decide +kernel) (by decide +kernel)⟩
theorem l_P_25 : tk_ML "ChargePlans$Planning" 25 y_S_load := Or.inr ⟨"ChargePlans", tk_at 407 (by decide +kernel) (by decide +kernel)⟩
theorem l_S_41 : tk_ML "ChargePlans$Sums" 41 y_G_room := Or.inr ⟨"ChargePlans", tk_at 411 (by decide +kernel) (by decide +kernel)⟩
theorem l_S_50 : tk_ML "ChargePlans$Sums" 50 y_S_loadElements := Or.inl (tk_at 418 (by decide +kernel) (by decide +kernel))
theorem l_P_46 : tk_ML "ChargePlans$Planning" 46 y_P_tryNumbers := Or.inl (tk_at 422 (by decide +kernel) (by decide +kernel))
theorem l_P_53 : tk_ML "ChargePlans$Planning" 53 y_P_keepIfAllHold := Or.inl (tk_at 426 (by decide +kernel) (by decide +kernel))
theorem l_P_76 : tk_ML "ChargePlans$Planning" 76 y_S_broken := Or.inr ⟨"ChargePlans", tk_at 430 (by decide +kernel) (by decide +kernel)⟩
theorem l_P_72 : tk_ML "ChargePlans$Planning" 72 y_S_cents := Or.inr ⟨"ChargePlans", tk_at 434 (by decide +kernel) (by decide +kernel)⟩
theorem l_P_56 : tk_ML "ChargePlans$Planning" 56 y_S_settle := Or.inr ⟨"ChargePlans", tk_at 438 (by decide +kernel) (by decide +kernel)⟩
theorem l_P_62 : tk_ML "ChargePlans$Planning" 62 y_S_addBundle := Or.inr ⟨"ChargePlans", tk_at 442 (by decide +kernel) (by decide +kernel)⟩
theorem l_P_65 : tk_ML "ChargePlans$Planning" 65 y_P_givenUp := Or.inl (tk_at 446 (by decide +kernel) (by decide +kernel))
theorem l_P_69 : tk_ML "ChargePlans$Planning" 69 y_S_tooHeavy := Or.inr ⟨"ChargePlans", tk_at 450 (by decide +kernel) (by decide +kernel)⟩
theorem l_CP_100 : tk_ML "ChargePlans" 100 y_H_keepPlan := Or.inr ⟨"ChargePlans", tk_at 454 (by decide +kernel) (by decide +kernel)⟩
theorem l_L_107 : tk_ML "ChargePlansLaw" 107 y_L_planned := Or.inl (tk_at 458 (by decide +kernel) (by decide +kernel))
theorem l_L_45 : tk_ML "ChargePlansLaw" 45 y_CP_planned := Or.inl (tk_at 461 (by decide +kernel) (by decide +kernel))
theorem l_L_111 : tk_ML "ChargePlansLaw" 111 y_L_amount := Or.inl (tk_at 465 (by decide +kernel) (by decide +kernel))
theorem l_L_49 : tk_ML "ChargePlansLaw" 49 y_CP_amount := Or.inl (tk_at 468 (by decide +kernel) (by decide +kernel))
theorem l_CP_114 : tk_ML "ChargePlans" 114 y_H_hasPlan := Or.inr ⟨"ChargePlans", tk_at 472 (by decide +kernel) (by decide +kernel)⟩
theorem l_L_114 : tk_ML "ChargePlansLaw" 114 y_L_worst := Or.inl (tk_at 476 (by decide +kernel) (by decide +kernel))
theorem l_L_52 : tk_ML "ChargePlansLaw" 52 y_CP_worst := Or.inl (tk_at 479 (by decide +kernel) (by decide +kernel))
theorem l_CP_121 : tk_ML "ChargePlans" 121 y_CP_plannedKilos := Or.inl (tk_at 483 (by decide +kernel) (by decide +kernel))
theorem l_CP_125 : tk_ML "ChargePlans" 125 y_CP_plannedShares := Or.inl (tk_at 487 (by decide +kernel) (by decide +kernel))
theorem l_CP_129 : tk_ML "ChargePlans" 129 y_CP_commonDivisor := Or.inl (tk_at 491 (by decide +kernel) (by decide +kernel))
theorem l_L_118 : tk_ML "ChargePlansLaw" 118 y_L_bound := Or.inl (tk_at 497 (by decide +kernel) (by decide +kernel))
theorem l_L_56 : tk_ML "ChargePlansLaw" 56 y_CP_bound := Or.inl (tk_at 500 (by decide +kernel) (by decide +kernel))
theorem l_CP_138 : tk_ML "ChargePlans" 138 y_G_room := Or.inr ⟨"ChargePlans", tk_at 505 (by decide +kernel) (by decide +kernel)⟩
theorem l_L_121 : tk_ML "ChargePlansLaw" 121 y_L_clash := Or.inl (tk_at 509 (by decide +kernel) (by decide +kernel))
theorem l_L_60 : tk_ML "ChargePlansLaw" 60 y_CP_clash := Or.inl (tk_at 512 (by decide +kernel) (by decide +kernel))
theorem l_CP_153 : tk_ML "ChargePlans" 153 y_C_find := Or.inr ⟨"ChargePlans", tk_at 516 (by decide +kernel) (by decide +kernel)⟩
theorem l_C_22 : tk_ML "ChargePlans$Clashing" 22 y_S_load := Or.inr ⟨"ChargePlans", tk_at 520 (by decide +kernel) (by decide +kernel)⟩
theorem l_C_30 : tk_ML "ChargePlans$Clashing" 30 y_C_walk := Or.inl (tk_at 521 (by decide +kernel) (by decide +kernel))
theorem l_C_42 : tk_ML "ChargePlans$Clashing" 42 y_S_broken := Or.inr ⟨"ChargePlans", tk_at 525 (by decide +kernel) (by decide +kernel)⟩
theorem l_C_46 : tk_ML "ChargePlans$Clashing" 46 y_S_settle := Or.inr ⟨"ChargePlans", tk_at 526 (by decide +kernel) (by decide +kernel)⟩
theorem l_C_53 : tk_ML "ChargePlans$Clashing" 53 y_S_addBundle := Or.inr ⟨"ChargePlans", tk_at 527 (by decide +kernel) (by decide +kernel)⟩
theorem l_C_34 : tk_ML "ChargePlans$Clashing" 34 y_C_someChargeHolds := Or.inl (tk_at 528 (by decide +kernel) (by decide +kernel))
theorem l_L_124 : tk_ML "ChargePlansLaw" 124 y_L_take := Or.inl (tk_at 532 (by decide +kernel) (by decide +kernel))
theorem l_L_63 : tk_ML "ChargePlansLaw" 63 y_CP_take := Or.inl (tk_at 535 (by decide +kernel) (by decide +kernel))
theorem l_CP_157 : tk_ML "ChargePlans" 157 y_CP_enoughLeft := Or.inl (tk_at 539 (by decide +kernel) (by decide +kernel))
theorem l_L_127 : tk_ML "ChargePlansLaw" 127 y_L_stock := Or.inl (tk_at 543 (by decide +kernel) (by decide +kernel))
theorem l_L_66 : tk_ML "ChargePlansLaw" 66 y_CP_stock := Or.inl (tk_at 546 (by decide +kernel) (by decide +kernel))
theorem l_L_72 : tk_ML "ChargePlansLaw" 72 y_M_init := Or.inl (tk_at 552 (by decide +kernel) (by decide +kernel))
theorem l_L_79 : tk_ML "ChargePlansLaw" 79 y_M_thrown := Or.inl (tk_at 621 (by decide +kernel) (by decide +kernel))
theorem l_L_78 : tk_ML "ChargePlansLaw" 78 y_M_good := Or.inl (tk_at 625 (by decide +kernel) (by decide +kernel))
theorem l_M_63 : tk_ML "ChargePlansModel" 63 y_M_in := Or.inl (tk_at 630 (by decide +kernel) (by decide +kernel))
theorem l_M_76 : tk_ML "ChargePlansModel" 76 y_M_throwing := Or.inl (tk_at 635 (by decide +kernel) (by decide +kernel))
theorem l_L_86 : tk_ML "ChargePlansLaw" 86 y_M_element := Or.inl (tk_at 639 (by decide +kernel) (by decide +kernel))
theorem l_M_82 : tk_ML "ChargePlansModel" 82 y_M_isGood := Or.inl (tk_at 643 (by decide +kernel) (by decide +kernel))
theorem l_M_88 : tk_ML "ChargePlansModel" 88 y_M_isSpan := Or.inl (tk_at 648 (by decide +kernel) (by decide +kernel))
theorem l_L_90 : tk_ML "ChargePlansLaw" 90 y_M_limit := Or.inl (tk_at 652 (by decide +kernel) (by decide +kernel))
theorem l_L_94 : tk_ML "ChargePlansLaw" 94 y_M_arrive := Or.inl (tk_at 656 (by decide +kernel) (by decide +kernel))
theorem l_L_129 : tk_ML "ChargePlansLaw" 129 y_M_stock := Or.inl (tk_at 660 (by decide +kernel) (by decide +kernel))
theorem l_L_97 : tk_ML "ChargePlansLaw" 97 y_M_heat := Or.inl (tk_at 664 (by decide +kernel) (by decide +kernel))
theorem l_L_100 : tk_ML "ChargePlansLaw" 100 y_M_span := Or.inl (tk_at 668 (by decide +kernel) (by decide +kernel))
theorem l_M_92 : tk_ML "ChargePlansModel" 92 y_M_isHeat := Or.inl (tk_at 672 (by decide +kernel) (by decide +kernel))
theorem l_L_103 : tk_ML "ChargePlansLaw" 103 y_M_most := Or.inl (tk_at 676 (by decide +kernel) (by decide +kernel))
theorem l_L_106 : tk_ML "ChargePlansLaw" 106 y_M_plan := Or.inl (tk_at 681 (by decide +kernel) (by decide +kernel))
theorem l_M_111 : tk_ML "ChargePlansModel" 111 y_M_top := Or.inl (tk_at 685 (by decide +kernel) (by decide +kernel))
theorem l_M_97 : tk_ML "ChargePlansModel" 97 y_M_sum := Or.inl (tk_at 689 (by decide +kernel) (by decide +kernel))
theorem l_M_115 : tk_ML "ChargePlansModel" 115 y_M_broken := Or.inl (tk_at 693 (by decide +kernel) (by decide +kernel))
theorem l_M_118 : tk_ML "ChargePlansModel" 118 y_M_keep := Or.inl (tk_at 697 (by decide +kernel) (by decide +kernel))
theorem l_L_110 : tk_ML "ChargePlansLaw" 110 y_M_planned := Or.inl (tk_at 701 (by decide +kernel) (by decide +kernel))
theorem l_L_113 : tk_ML "ChargePlansLaw" 113 y_M_amount := Or.inl (tk_at 705 (by decide +kernel) (by decide +kernel))
theorem l_M_122 : tk_ML "ChargePlansModel" 122 y_M_hasPlan := Or.inl (tk_at 709 (by decide +kernel) (by decide +kernel))
theorem l_L_117 : tk_ML "ChargePlansLaw" 117 y_M_worst := Or.inl (tk_at 713 (by decide +kernel) (by decide +kernel))
theorem l_M_125 : tk_ML "ChargePlansModel" 125 y_M_common := Or.inl (tk_at 717 (by decide +kernel) (by decide +kernel))
theorem l_L_120 : tk_ML "ChargePlansLaw" 120 y_M_bound := Or.inl (tk_at 720 (by decide +kernel) (by decide +kernel))
theorem l_L_123 : tk_ML "ChargePlansLaw" 123 y_M_clash := Or.inl (tk_at 724 (by decide +kernel) (by decide +kernel))
theorem l_M_129 : tk_ML "ChargePlansModel" 129 y_M_lookAtAll := Or.inl (tk_at 728 (by decide +kernel) (by decide +kernel))
theorem l_M_132 : tk_ML "ChargePlansModel" 132 y_M_isSome := Or.inl (tk_at 732 (by decide +kernel) (by decide +kernel))
theorem l_L_126 : tk_ML "ChargePlansLaw" 126 y_M_take := Or.inl (tk_at 736 (by decide +kernel) (by decide +kernel))
theorem nw_L_8 : tk_Nw "ChargePlansLaw" 8 0 4 [.null, .null, .null, .null] := ⟨R_CP, F_CP, t_CP, rfl, i_CP, t_CP_ok, tk_at 16 (by decide +kernel) (by decide +kernel), tk_at 17 (by decide +kernel) (by decide +kernel), tk_at 1 (by decide +kernel) (by decide +kernel), fun j hj => by (match j, hj with | 0, _ => rfl | 1, _ => rfl | 2, _ => rfl | 3, _ => rfl | j + 4, h => omega)⟩
theorem nw_CP_7 : tk_Nw "ChargePlans" 7 1 7 [.int 0, .null, .null, .null, .null, .null, .null] := ⟨R_G, F_G, t_G, rfl, i_G, t_G_ok, tk_at 24 (by decide +kernel) (by decide +kernel), tk_at 25 (by decide +kernel) (by decide +kernel), tk_at 2 (by decide +kernel) (by decide +kernel), fun j hj => by (match j, hj with | 0, _ => rfl | 1, _ => rfl | 2, _ => rfl | 3, _ => rfl | 4, _ => rfl | 5, _ => rfl | 6, _ => rfl | j + 7, h => omega)⟩
theorem nw_CP_16 : tk_Nw "ChargePlans" 16 2 8 [.int 0, .null, .null, .null, .null, .null, .null, .null] := ⟨R_H, F_H, t_H, rfl, i_H, t_H_ok, tk_at 65 (by decide +kernel) (by decide +kernel), tk_at 66 (by decide +kernel) (by decide +kernel), tk_at 3 (by decide +kernel) (by decide +kernel), fun j hj => by (match j, hj with | 0, _ => rfl | 1, _ => rfl | 2, _ => rfl | 3, _ => rfl | 4, _ => rfl | 5, _ => rfl | 6, _ => rfl | 7, _ => rfl | j + 8, h => omega)⟩
theorem nw_CP_23 : tk_Nw "ChargePlans" 23 3 8 [.null, .null, .null, .int 0, .int 0, .int 0, .int 0, .int 0] := ⟨R_P, F_P, t_P, rfl, i_P, t_P_ok, tk_at 108 (by decide +kernel) (by decide +kernel), tk_at 109 (by decide +kernel) (by decide +kernel), tk_at 4 (by decide +kernel) (by decide +kernel), fun j hj => by (match j, hj with | 0, _ => rfl | 1, _ => rfl | 2, _ => rfl | 3, _ => rfl | 4, _ => rfl | 5, _ => rfl | 6, _ => rfl | 7, _ => rfl | j + 8, h => omega)⟩
theorem nw_P_9 : tk_Nw "ChargePlans$Planning" 9 4 4 [.int 0, .null, .null, .null] := ⟨R_S, F_S, t_S, rfl, i_S, t_S_ok, tk_at 114 (by decide +kernel) (by decide +kernel), tk_at 115 (by decide +kernel) (by decide +kernel), tk_at 5 (by decide +kernel) (by decide +kernel), fun j hj => by (match j, hj with | 0, _ => rfl | 1, _ => rfl | 2, _ => rfl | 3, _ => rfl | j + 4, h => omega)⟩
theorem nw_CP_30 : tk_Nw "ChargePlans" 30 5 3 [.null, .null, .int 0] := ⟨R_C, F_C, t_C, rfl, i_C, t_C_ok, tk_at 167 (by decide +kernel) (by decide +kernel), tk_at 168 (by decide +kernel) (by decide +kernel), tk_at 6 (by decide +kernel) (by decide +kernel), fun j hj => by (match j, hj with | 0, _ => rfl | 1, _ => rfl | 2, _ => rfl | j + 3, h => omega)⟩
theorem nw_C_9 : tk_Nw "ChargePlans$Clashing" 9 4 4 [.int 0, .null, .null, .null] := ⟨R_S, F_S, t_S, rfl, i_S, t_S_ok, tk_at 173 (by decide +kernel) (by decide +kernel), tk_at 115 (by decide +kernel) (by decide +kernel), tk_at 5 (by decide +kernel) (by decide +kernel), fun j hj => by (match j, hj with | 0, _ => rfl | 1, _ => rfl | 2, _ => rfl | 3, _ => rfl | j + 4, h => omega)⟩
theorem nw_L_70 : tk_Nw "ChargePlansLaw" 70 6 21 [.int 0, .int 0, .null, .null, .null, .null, .null, .null, .int 0, .null, .null, .null, .null, .null, .null, .null, .int 0, .int 0, .int 0, .null, .null] := ⟨R_M, F_M, t_M, rfl, i_M, t_M_ok, tk_at 550 (by decide +kernel) (by decide +kernel), tk_at 551 (by decide +kernel) (by decide +kernel), tk_at 7 (by decide +kernel) (by decide +kernel), fun j hj => by (match j, hj with | 0, _ => rfl | 1, _ => rfl | 2, _ => rfl | 3, _ => rfl | 4, _ => rfl | 5, _ => rfl | 6, _ => rfl | 7, _ => rfl | 8, _ => rfl | 9, _ => rfl | 10, _ => rfl | 11, _ => rfl | 12, _ => rfl | 13, _ => rfl | 14, _ => rfl | 15, _ => rfl | 16, _ => rfl | 17, _ => rfl | 18, _ => rfl | 19, _ => rfl | 20, _ => rfl | j + 21, h => omega)⟩
theorem q_CP_49 : Cond.constant "ChargePlans" 49 (100000) ∈ tk_tbl := tk_at 302 (by decide +kernel) (by decide +kernel)
theorem q_CP_133 : Cond.constantLong "ChargePlans" 133 (-1) ∈ tk_tbl := tk_at 504 (by decide +kernel) (by decide +kernel)
theorem q_M_70 : Cond.constantLong "ChargePlansModel" 70 (1000) ∈ tk_tbl := tk_at 629 (by decide +kernel) (by decide +kernel)
theorem q_M_72 : Cond.constantLong "ChargePlansModel" 72 (100000) ∈ tk_tbl := tk_at 633 (by decide +kernel) (by decide +kernel)
theorem q_M_74 : Cond.constantLong "ChargePlansModel" 74 (6) ∈ tk_tbl := tk_at 634 (by decide +kernel) (by decide +kernel)
theorem q_M_86 : Cond.constantLong "ChargePlansModel" 86 (3) ∈ tk_tbl := tk_at 647 (by decide +kernel) (by decide +kernel)
theorem q_M_80 : Cond.constantLong "ChargePlansModel" 80 (10000) ∈ tk_tbl := tk_at 651 (by decide +kernel) (by decide +kernel)
theorem q_M_95 : Cond.constantLong "ChargePlansModel" 95 (30) ∈ tk_tbl := tk_at 680 (by decide +kernel) (by decide +kernel)
theorem a_int : Cond.arrayClass .int ∈ tk_tbl := tk_at 64 (by decide +kernel) (by decide +kernel)
theorem a_long : Cond.arrayClass .long ∈ tk_tbl := tk_at 185 (by decide +kernel) (by decide +kernel)
theorem a_boolean : Cond.arrayClass .boolean ∈ tk_tbl := tk_at 620 (by decide +kernel) (by decide +kernel)
theorem a_byte : Cond.arrayClass .byte ∈ tk_tbl := tk_at 279 (by decide +kernel) (by decide +kernel)
theorem o_CP : Cond.methodLink "ChargePlans" 1 Lib.objectInit ∈ tk_tbl := tk_at 21 (by decide +kernel) (by decide +kernel)
theorem o_G : Cond.methodLink "ChargePlans$Goods" 3 Lib.objectInit ∈ tk_tbl := tk_at 29 (by decide +kernel) (by decide +kernel)
theorem o_H : Cond.methodLink "ChargePlans$Heats" 3 Lib.objectInit ∈ tk_tbl := tk_at 70 (by decide +kernel) (by decide +kernel)
theorem o_P : Cond.methodLink "ChargePlans$Planning" 3 Lib.objectInit ∈ tk_tbl := tk_at 113 (by decide +kernel) (by decide +kernel)
theorem o_S : Cond.methodLink "ChargePlans$Sums" 3 Lib.objectInit ∈ tk_tbl := tk_at 119 (by decide +kernel) (by decide +kernel)
theorem o_C : Cond.methodLink "ChargePlans$Clashing" 3 Lib.objectInit ∈ tk_tbl := tk_at 172 (by decide +kernel) (by decide +kernel)
theorem o_M : Cond.methodLink "ChargePlansModel" 1 Lib.objectInit ∈ tk_tbl := tk_at 555 (by decide +kernel) (by decide +kernel)
theorem o_1 : Cond.instanceMethod Lib.objectInit ∈ tk_tbl := tk_at 22 (by decide +kernel) (by decide +kernel)
set_option maxRecDepth 20000 in
theorem o_2 : Cond.code Lib.objectInit ⟨#[0xb1]⟩ 1 none ∈ tk_tbl := tk_ac 23 rfl (by decide +kernel)
end
section
theorem d_CP_init_0 : decode c_CP_init 0 = .ok (.aload_n 0, 1) := by decide +kernel
theorem d_CP_init_1 : decode c_CP_init 1 = .ok (.invokespecial 1, 3) := by decide +kernel
theorem d_CP_init_4 : decode c_CP_init 4 = .ok (.aload_n 0, 1) := by decide +kernel
theorem d_CP_init_5 : decode c_CP_init 5 = .ok (.new 7, 3) := by decide +kernel
theorem d_CP_init_8 : decode c_CP_init 8 = .ok (.dup, 1) := by decide +kernel
theorem d_CP_init_9 : decode c_CP_init 9 = .ok (.invokespecial 9, 3) := by decide +kernel
theorem d_CP_init_12 : decode c_CP_init 12 = .ok (.putfield 10, 3) := by decide +kernel
theorem d_CP_init_15 : decode c_CP_init 15 = .ok (.aload_n 0, 1) := by decide +kernel
theorem d_CP_init_16 : decode c_CP_init 16 = .ok (.new 16, 3) := by decide +kernel
theorem d_CP_init_19 : decode c_CP_init 19 = .ok (.dup, 1) := by decide +kernel
theorem d_CP_init_20 : decode c_CP_init 20 = .ok (.invokespecial 18, 3) := by decide +kernel
theorem d_CP_init_23 : decode c_CP_init 23 = .ok (.putfield 19, 3) := by decide +kernel
theorem d_CP_init_26 : decode c_CP_init 26 = .ok (.aload_n 0, 1) := by decide +kernel
theorem d_CP_init_27 : decode c_CP_init 27 = .ok (.new 23, 3) := by decide +kernel
theorem d_CP_init_30 : decode c_CP_init 30 = .ok (.dup, 1) := by decide +kernel
theorem d_CP_init_31 : decode c_CP_init 31 = .ok (.invokespecial 25, 3) := by decide +kernel
theorem d_CP_init_34 : decode c_CP_init 34 = .ok (.putfield 26, 3) := by decide +kernel
theorem d_CP_init_37 : decode c_CP_init 37 = .ok (.aload_n 0, 1) := by decide +kernel
theorem d_CP_init_38 : decode c_CP_init 38 = .ok (.new 30, 3) := by decide +kernel
theorem d_CP_init_41 : decode c_CP_init 41 = .ok (.dup, 1) := by decide +kernel
theorem d_CP_init_42 : decode c_CP_init 42 = .ok (.invokespecial 32, 3) := by decide +kernel
theorem d_CP_init_45 : decode c_CP_init 45 = .ok (.putfield 33, 3) := by decide +kernel
theorem d_CP_init_48 : decode c_CP_init 48 = .ok (.return_, 1) := by decide +kernel
theorem d_CP_good_0 : decode c_CP_good 0 = .ok (.aload_n 0, 1) := by decide +kernel
theorem d_CP_good_1 : decode c_CP_good 1 = .ok (.getfield 10, 3) := by decide +kernel
theorem d_CP_good_4 : decode c_CP_good 4 = .ok (.getfield 37, 3) := by decide +kernel
theorem d_CP_good_7 : decode c_CP_good 7 = .ok (.iconst 5, 1) := by decide +kernel
theorem d_CP_good_8 : decode c_CP_good 8 = .ok (.if_icmp .ge (7), 3) := by decide +kernel
theorem d_CP_good_11 : decode c_CP_good 11 = .ok (.iconst 1, 1) := by decide +kernel
theorem d_CP_good_12 : decode c_CP_good 12 = .ok (.goto (4), 3) := by decide +kernel
theorem d_CP_good_15 : decode c_CP_good 15 = .ok (.iconst 0, 1) := by decide +kernel
theorem d_CP_good_16 : decode c_CP_good 16 = .ok (.invokestatic 41, 3) := by decide +kernel
theorem d_CP_good_19 : decode c_CP_good 19 = .ok (.iload_n 1, 1) := by decide +kernel
theorem d_CP_good_20 : decode c_CP_good 20 = .ok (.iconst 1, 1) := by decide +kernel
theorem d_CP_good_21 : decode c_CP_good 21 = .ok (.sipush (1000), 3) := by decide +kernel
theorem d_CP_good_24 : decode c_CP_good 24 = .ok (.invokestatic 45, 3) := by decide +kernel
theorem d_CP_good_27 : decode c_CP_good 27 = .ok (.iload_n 2, 1) := by decide +kernel
theorem d_CP_good_28 : decode c_CP_good 28 = .ok (.iconst 0, 1) := by decide +kernel
theorem d_CP_good_29 : decode c_CP_good 29 = .ok (.ldc 49, 2) := by decide +kernel
theorem d_CP_good_31 : decode c_CP_good 31 = .ok (.invokestatic 45, 3) := by decide +kernel
theorem d_CP_good_34 : decode c_CP_good 34 = .ok (.iload_n 3, 1) := by decide +kernel
theorem d_CP_good_35 : decode c_CP_good 35 = .ok (.iconst 0, 1) := by decide +kernel
theorem d_CP_good_36 : decode c_CP_good 36 = .ok (.bipush (6), 2) := by decide +kernel
theorem d_CP_good_38 : decode c_CP_good 38 = .ok (.invokestatic 45, 3) := by decide +kernel
theorem d_CP_good_41 : decode c_CP_good 41 = .ok (.aload_n 0, 1) := by decide +kernel
theorem d_CP_good_42 : decode c_CP_good 42 = .ok (.getfield 10, 3) := by decide +kernel
theorem d_CP_good_45 : decode c_CP_good 45 = .ok (.iload_n 1, 1) := by decide +kernel
theorem d_CP_good_46 : decode c_CP_good 46 = .ok (.iload_n 2, 1) := by decide +kernel
theorem d_CP_good_47 : decode c_CP_good 47 = .ok (.iload_n 3, 1) := by decide +kernel
theorem d_CP_good_48 : decode c_CP_good 48 = .ok (.invokevirtual 50, 3) := by decide +kernel
theorem d_CP_good_51 : decode c_CP_good 51 = .ok (.ireturn, 1) := by decide +kernel
theorem d_CP_element_0 : decode c_CP_element 0 = .ok (.iload_n 1, 1) := by decide +kernel
theorem d_CP_element_1 : decode c_CP_element 1 = .ok (.aload_n 0, 1) := by decide +kernel
theorem d_CP_element_2 : decode c_CP_element 2 = .ok (.getfield 10, 3) := by decide +kernel
theorem d_CP_element_5 : decode c_CP_element 5 = .ok (.getfield 37, 3) := by decide +kernel
theorem d_CP_element_8 : decode c_CP_element 8 = .ok (.invokestatic 54, 3) := by decide +kernel
theorem d_CP_element_11 : decode c_CP_element 11 = .ok (.iload_n 2, 1) := by decide +kernel
theorem d_CP_element_12 : decode c_CP_element 12 = .ok (.iconst 4, 1) := by decide +kernel
theorem d_CP_element_13 : decode c_CP_element 13 = .ok (.invokestatic 54, 3) := by decide +kernel
theorem d_CP_element_16 : decode c_CP_element 16 = .ok (.iload_n 3, 1) := by decide +kernel
theorem d_CP_element_17 : decode c_CP_element 17 = .ok (.iload 4, 2) := by decide +kernel
theorem d_CP_element_19 : decode c_CP_element 19 = .ok (.iconst 0, 1) := by decide +kernel
theorem d_CP_element_20 : decode c_CP_element 20 = .ok (.sipush (10000), 3) := by decide +kernel
theorem d_CP_element_23 : decode c_CP_element 23 = .ok (.invokestatic 58, 3) := by decide +kernel
theorem d_CP_element_26 : decode c_CP_element 26 = .ok (.aload_n 0, 1) := by decide +kernel
theorem d_CP_element_27 : decode c_CP_element 27 = .ok (.getfield 10, 3) := by decide +kernel
theorem d_CP_element_30 : decode c_CP_element 30 = .ok (.getfield 62, 3) := by decide +kernel
theorem d_CP_element_33 : decode c_CP_element 33 = .ok (.iload_n 1, 1) := by decide +kernel
theorem d_CP_element_34 : decode c_CP_element 34 = .ok (.iconst 4, 1) := by decide +kernel
theorem d_CP_element_35 : decode c_CP_element 35 = .ok (.imul, 1) := by decide +kernel
theorem d_CP_element_36 : decode c_CP_element 36 = .ok (.iload_n 2, 1) := by decide +kernel
theorem d_CP_element_37 : decode c_CP_element 37 = .ok (.iadd, 1) := by decide +kernel
theorem d_CP_element_38 : decode c_CP_element 38 = .ok (.iload_n 3, 1) := by decide +kernel
theorem d_CP_element_39 : decode c_CP_element 39 = .ok (.iastore, 1) := by decide +kernel
theorem d_CP_element_40 : decode c_CP_element 40 = .ok (.aload_n 0, 1) := by decide +kernel
theorem d_CP_element_41 : decode c_CP_element 41 = .ok (.getfield 10, 3) := by decide +kernel
theorem d_CP_element_44 : decode c_CP_element 44 = .ok (.getfield 66, 3) := by decide +kernel
theorem d_CP_element_47 : decode c_CP_element 47 = .ok (.iload_n 1, 1) := by decide +kernel
theorem d_CP_element_48 : decode c_CP_element 48 = .ok (.iconst 4, 1) := by decide +kernel
theorem d_CP_element_49 : decode c_CP_element 49 = .ok (.imul, 1) := by decide +kernel
theorem d_CP_element_50 : decode c_CP_element 50 = .ok (.iload_n 2, 1) := by decide +kernel
theorem d_CP_element_51 : decode c_CP_element 51 = .ok (.iadd, 1) := by decide +kernel
theorem d_CP_element_52 : decode c_CP_element 52 = .ok (.iload 4, 2) := by decide +kernel
theorem d_CP_element_54 : decode c_CP_element 54 = .ok (.iastore, 1) := by decide +kernel
theorem d_CP_element_55 : decode c_CP_element 55 = .ok (.return_, 1) := by decide +kernel
theorem d_CP_limit_0 : decode c_CP_limit 0 = .ok (.iload_n 1, 1) := by decide +kernel
theorem d_CP_limit_1 : decode c_CP_limit 1 = .ok (.aload_n 0, 1) := by decide +kernel
theorem d_CP_limit_2 : decode c_CP_limit 2 = .ok (.getfield 10, 3) := by decide +kernel
theorem d_CP_limit_5 : decode c_CP_limit 5 = .ok (.getfield 37, 3) := by decide +kernel
theorem d_CP_limit_8 : decode c_CP_limit 8 = .ok (.invokestatic 54, 3) := by decide +kernel
theorem d_CP_limit_11 : decode c_CP_limit 11 = .ok (.iload_n 2, 1) := by decide +kernel
theorem d_CP_limit_12 : decode c_CP_limit 12 = .ok (.iconst 0, 1) := by decide +kernel
theorem d_CP_limit_13 : decode c_CP_limit 13 = .ok (.bipush (6), 2) := by decide +kernel
theorem d_CP_limit_15 : decode c_CP_limit 15 = .ok (.invokestatic 45, 3) := by decide +kernel
theorem d_CP_limit_18 : decode c_CP_limit 18 = .ok (.aload_n 0, 1) := by decide +kernel
theorem d_CP_limit_19 : decode c_CP_limit 19 = .ok (.getfield 10, 3) := by decide +kernel
theorem d_CP_limit_22 : decode c_CP_limit 22 = .ok (.getfield 69, 3) := by decide +kernel
theorem d_CP_limit_25 : decode c_CP_limit 25 = .ok (.iload_n 1, 1) := by decide +kernel
theorem d_CP_limit_26 : decode c_CP_limit 26 = .ok (.iload_n 2, 1) := by decide +kernel
theorem d_CP_limit_27 : decode c_CP_limit 27 = .ok (.iastore, 1) := by decide +kernel
theorem d_CP_limit_28 : decode c_CP_limit 28 = .ok (.return_, 1) := by decide +kernel
theorem d_CP_arrive_0 : decode c_CP_arrive 0 = .ok (.iload_n 1, 1) := by decide +kernel
theorem d_CP_arrive_1 : decode c_CP_arrive 1 = .ok (.aload_n 0, 1) := by decide +kernel
theorem d_CP_arrive_2 : decode c_CP_arrive 2 = .ok (.getfield 10, 3) := by decide +kernel
theorem d_CP_arrive_5 : decode c_CP_arrive 5 = .ok (.getfield 37, 3) := by decide +kernel
theorem d_CP_arrive_8 : decode c_CP_arrive 8 = .ok (.invokestatic 54, 3) := by decide +kernel
theorem d_CP_arrive_11 : decode c_CP_arrive 11 = .ok (.iload_n 2, 1) := by decide +kernel
theorem d_CP_arrive_12 : decode c_CP_arrive 12 = .ok (.ifCond .lt (7), 3) := by decide +kernel
theorem d_CP_arrive_15 : decode c_CP_arrive 15 = .ok (.iconst 1, 1) := by decide +kernel
theorem d_CP_arrive_16 : decode c_CP_arrive 16 = .ok (.goto (4), 3) := by decide +kernel
theorem d_CP_arrive_19 : decode c_CP_arrive 19 = .ok (.iconst 0, 1) := by decide +kernel
theorem d_CP_arrive_20 : decode c_CP_arrive 20 = .ok (.invokestatic 72, 3) := by decide +kernel
theorem d_CP_arrive_23 : decode c_CP_arrive 23 = .ok (.iload_n 2, 1) := by decide +kernel
theorem d_CP_arrive_24 : decode c_CP_arrive 24 = .ok (.bipush (6), 2) := by decide +kernel
theorem d_CP_arrive_26 : decode c_CP_arrive 26 = .ok (.aload_n 0, 1) := by decide +kernel
theorem d_CP_arrive_27 : decode c_CP_arrive 27 = .ok (.getfield 10, 3) := by decide +kernel
theorem d_CP_arrive_30 : decode c_CP_arrive 30 = .ok (.getfield 75, 3) := by decide +kernel
theorem d_CP_arrive_33 : decode c_CP_arrive 33 = .ok (.iload_n 1, 1) := by decide +kernel
theorem d_CP_arrive_34 : decode c_CP_arrive 34 = .ok (.iaload, 1) := by decide +kernel
theorem d_CP_arrive_35 : decode c_CP_arrive 35 = .ok (.isub, 1) := by decide +kernel
theorem d_CP_arrive_36 : decode c_CP_arrive 36 = .ok (.if_icmp .gt (7), 3) := by decide +kernel
theorem d_CP_arrive_39 : decode c_CP_arrive 39 = .ok (.iconst 1, 1) := by decide +kernel
theorem d_CP_arrive_40 : decode c_CP_arrive 40 = .ok (.goto (4), 3) := by decide +kernel
theorem d_CP_arrive_43 : decode c_CP_arrive 43 = .ok (.iconst 0, 1) := by decide +kernel
theorem d_CP_arrive_44 : decode c_CP_arrive 44 = .ok (.invokestatic 78, 3) := by decide +kernel
theorem d_CP_arrive_47 : decode c_CP_arrive 47 = .ok (.aload_n 0, 1) := by decide +kernel
theorem d_CP_arrive_48 : decode c_CP_arrive 48 = .ok (.getfield 10, 3) := by decide +kernel
theorem d_CP_arrive_51 : decode c_CP_arrive 51 = .ok (.getfield 75, 3) := by decide +kernel
theorem d_CP_arrive_54 : decode c_CP_arrive 54 = .ok (.iload_n 1, 1) := by decide +kernel
theorem d_CP_arrive_55 : decode c_CP_arrive 55 = .ok (.dup2, 1) := by decide +kernel
theorem d_CP_arrive_56 : decode c_CP_arrive 56 = .ok (.iaload, 1) := by decide +kernel
theorem d_CP_arrive_57 : decode c_CP_arrive 57 = .ok (.iload_n 2, 1) := by decide +kernel
theorem d_CP_arrive_58 : decode c_CP_arrive 58 = .ok (.iadd, 1) := by decide +kernel
theorem d_CP_arrive_59 : decode c_CP_arrive 59 = .ok (.iastore, 1) := by decide +kernel
theorem d_CP_arrive_60 : decode c_CP_arrive 60 = .ok (.aload_n 0, 1) := by decide +kernel
theorem d_CP_arrive_61 : decode c_CP_arrive 61 = .ok (.getfield 10, 3) := by decide +kernel
theorem d_CP_arrive_64 : decode c_CP_arrive 64 = .ok (.getfield 75, 3) := by decide +kernel
theorem d_CP_arrive_67 : decode c_CP_arrive 67 = .ok (.iload_n 1, 1) := by decide +kernel
theorem d_CP_arrive_68 : decode c_CP_arrive 68 = .ok (.iaload, 1) := by decide +kernel
theorem d_CP_arrive_69 : decode c_CP_arrive 69 = .ok (.ireturn, 1) := by decide +kernel
theorem d_CP_heat_0 : decode c_CP_heat 0 = .ok (.aload_n 0, 1) := by decide +kernel
theorem d_CP_heat_1 : decode c_CP_heat 1 = .ok (.getfield 19, 3) := by decide +kernel
theorem d_CP_heat_4 : decode c_CP_heat 4 = .ok (.getfield 81, 3) := by decide +kernel
theorem d_CP_heat_7 : decode c_CP_heat 7 = .ok (.iconst 4, 1) := by decide +kernel
theorem d_CP_heat_8 : decode c_CP_heat 8 = .ok (.if_icmp .ge (7), 3) := by decide +kernel
theorem d_CP_heat_11 : decode c_CP_heat 11 = .ok (.iconst 1, 1) := by decide +kernel
theorem d_CP_heat_12 : decode c_CP_heat 12 = .ok (.goto (4), 3) := by decide +kernel
theorem d_CP_heat_15 : decode c_CP_heat 15 = .ok (.iconst 0, 1) := by decide +kernel
theorem d_CP_heat_16 : decode c_CP_heat 16 = .ok (.invokestatic 41, 3) := by decide +kernel
theorem d_CP_heat_19 : decode c_CP_heat 19 = .ok (.iload_n 1, 1) := by decide +kernel
theorem d_CP_heat_20 : decode c_CP_heat 20 = .ok (.iload_n 2, 1) := by decide +kernel
theorem d_CP_heat_21 : decode c_CP_heat 21 = .ok (.iconst 1, 1) := by decide +kernel
theorem d_CP_heat_22 : decode c_CP_heat 22 = .ok (.ldc 49, 2) := by decide +kernel
theorem d_CP_heat_24 : decode c_CP_heat 24 = .ok (.invokestatic 58, 3) := by decide +kernel
theorem d_CP_heat_27 : decode c_CP_heat 27 = .ok (.aload_n 0, 1) := by decide +kernel
theorem d_CP_heat_28 : decode c_CP_heat 28 = .ok (.getfield 19, 3) := by decide +kernel
theorem d_CP_heat_31 : decode c_CP_heat 31 = .ok (.iload_n 1, 1) := by decide +kernel
theorem d_CP_heat_32 : decode c_CP_heat 32 = .ok (.iload_n 2, 1) := by decide +kernel
theorem d_CP_heat_33 : decode c_CP_heat 33 = .ok (.invokevirtual 82, 3) := by decide +kernel
theorem d_CP_heat_36 : decode c_CP_heat 36 = .ok (.ireturn, 1) := by decide +kernel
theorem d_CP_span_0 : decode c_CP_span 0 = .ok (.iload_n 1, 1) := by decide +kernel
theorem d_CP_span_1 : decode c_CP_span 1 = .ok (.aload_n 0, 1) := by decide +kernel
theorem d_CP_span_2 : decode c_CP_span 2 = .ok (.getfield 19, 3) := by decide +kernel
theorem d_CP_span_5 : decode c_CP_span 5 = .ok (.getfield 81, 3) := by decide +kernel
theorem d_CP_span_8 : decode c_CP_span 8 = .ok (.invokestatic 54, 3) := by decide +kernel
theorem d_CP_span_11 : decode c_CP_span 11 = .ok (.iload_n 2, 1) := by decide +kernel
theorem d_CP_span_12 : decode c_CP_span 12 = .ok (.iconst 4, 1) := by decide +kernel
theorem d_CP_span_13 : decode c_CP_span 13 = .ok (.invokestatic 54, 3) := by decide +kernel
theorem d_CP_span_16 : decode c_CP_span 16 = .ok (.iload_n 3, 1) := by decide +kernel
theorem d_CP_span_17 : decode c_CP_span 17 = .ok (.iload 4, 2) := by decide +kernel
theorem d_CP_span_19 : decode c_CP_span 19 = .ok (.iconst 0, 1) := by decide +kernel
theorem d_CP_span_20 : decode c_CP_span 20 = .ok (.sipush (10000), 3) := by decide +kernel
theorem d_CP_span_23 : decode c_CP_span 23 = .ok (.invokestatic 58, 3) := by decide +kernel
theorem d_CP_span_26 : decode c_CP_span 26 = .ok (.aload_n 0, 1) := by decide +kernel
theorem d_CP_span_27 : decode c_CP_span 27 = .ok (.getfield 19, 3) := by decide +kernel
theorem d_CP_span_30 : decode c_CP_span 30 = .ok (.getfield 85, 3) := by decide +kernel
theorem d_CP_span_33 : decode c_CP_span 33 = .ok (.iload_n 1, 1) := by decide +kernel
theorem d_CP_span_34 : decode c_CP_span 34 = .ok (.iconst 4, 1) := by decide +kernel
theorem d_CP_span_35 : decode c_CP_span 35 = .ok (.imul, 1) := by decide +kernel
theorem d_CP_span_36 : decode c_CP_span 36 = .ok (.iload_n 2, 1) := by decide +kernel
theorem d_CP_span_37 : decode c_CP_span 37 = .ok (.iadd, 1) := by decide +kernel
theorem d_CP_span_38 : decode c_CP_span 38 = .ok (.iload_n 3, 1) := by decide +kernel
theorem d_CP_span_39 : decode c_CP_span 39 = .ok (.iastore, 1) := by decide +kernel
theorem d_CP_span_40 : decode c_CP_span 40 = .ok (.aload_n 0, 1) := by decide +kernel
theorem d_CP_span_41 : decode c_CP_span 41 = .ok (.getfield 19, 3) := by decide +kernel
theorem d_CP_span_44 : decode c_CP_span 44 = .ok (.getfield 86, 3) := by decide +kernel
theorem d_CP_span_47 : decode c_CP_span 47 = .ok (.iload_n 1, 1) := by decide +kernel
theorem d_CP_span_48 : decode c_CP_span 48 = .ok (.iconst 4, 1) := by decide +kernel
theorem d_CP_span_49 : decode c_CP_span 49 = .ok (.imul, 1) := by decide +kernel
theorem d_CP_span_50 : decode c_CP_span 50 = .ok (.iload_n 2, 1) := by decide +kernel
theorem d_CP_span_51 : decode c_CP_span 51 = .ok (.iadd, 1) := by decide +kernel
theorem d_CP_span_52 : decode c_CP_span 52 = .ok (.iload 4, 2) := by decide +kernel
theorem d_CP_span_54 : decode c_CP_span 54 = .ok (.iastore, 1) := by decide +kernel
theorem d_CP_span_55 : decode c_CP_span 55 = .ok (.return_, 1) := by decide +kernel
theorem d_CP_most_0 : decode c_CP_most 0 = .ok (.iload_n 1, 1) := by decide +kernel
theorem d_CP_most_1 : decode c_CP_most 1 = .ok (.aload_n 0, 1) := by decide +kernel
theorem d_CP_most_2 : decode c_CP_most 2 = .ok (.getfield 19, 3) := by decide +kernel
theorem d_CP_most_5 : decode c_CP_most 5 = .ok (.getfield 81, 3) := by decide +kernel
theorem d_CP_most_8 : decode c_CP_most 8 = .ok (.invokestatic 54, 3) := by decide +kernel
theorem d_CP_most_11 : decode c_CP_most 11 = .ok (.iload_n 2, 1) := by decide +kernel
theorem d_CP_most_12 : decode c_CP_most 12 = .ok (.iconst 0, 1) := by decide +kernel
theorem d_CP_most_13 : decode c_CP_most 13 = .ok (.bipush (30), 2) := by decide +kernel
theorem d_CP_most_15 : decode c_CP_most 15 = .ok (.invokestatic 45, 3) := by decide +kernel
theorem d_CP_most_18 : decode c_CP_most 18 = .ok (.aload_n 0, 1) := by decide +kernel
theorem d_CP_most_19 : decode c_CP_most 19 = .ok (.getfield 19, 3) := by decide +kernel
theorem d_CP_most_22 : decode c_CP_most 22 = .ok (.getfield 87, 3) := by decide +kernel
theorem d_CP_most_25 : decode c_CP_most 25 = .ok (.iload_n 1, 1) := by decide +kernel
theorem d_CP_most_26 : decode c_CP_most 26 = .ok (.iload_n 2, 1) := by decide +kernel
theorem d_CP_most_27 : decode c_CP_most 27 = .ok (.iastore, 1) := by decide +kernel
theorem d_CP_most_28 : decode c_CP_most 28 = .ok (.return_, 1) := by decide +kernel
theorem d_CP_plan_0 : decode c_CP_plan 0 = .ok (.iload_n 1, 1) := by decide +kernel
theorem d_CP_plan_1 : decode c_CP_plan 1 = .ok (.aload_n 0, 1) := by decide +kernel
theorem d_CP_plan_2 : decode c_CP_plan 2 = .ok (.getfield 19, 3) := by decide +kernel
theorem d_CP_plan_5 : decode c_CP_plan 5 = .ok (.getfield 81, 3) := by decide +kernel
theorem d_CP_plan_8 : decode c_CP_plan 8 = .ok (.invokestatic 54, 3) := by decide +kernel
theorem d_CP_plan_11 : decode c_CP_plan 11 = .ok (.iload_n 2, 1) := by decide +kernel
theorem d_CP_plan_12 : decode c_CP_plan 12 = .ok (.iconst 0, 1) := by decide +kernel
theorem d_CP_plan_13 : decode c_CP_plan 13 = .ok (.ldc 49, 2) := by decide +kernel
theorem d_CP_plan_15 : decode c_CP_plan 15 = .ok (.invokestatic 45, 3) := by decide +kernel
theorem d_CP_plan_18 : decode c_CP_plan 18 = .ok (.aload_n 0, 1) := by decide +kernel
theorem d_CP_plan_19 : decode c_CP_plan 19 = .ok (.getfield 26, 3) := by decide +kernel
theorem d_CP_plan_22 : decode c_CP_plan 22 = .ok (.aload_n 0, 1) := by decide +kernel
theorem d_CP_plan_23 : decode c_CP_plan 23 = .ok (.getfield 10, 3) := by decide +kernel
theorem d_CP_plan_26 : decode c_CP_plan 26 = .ok (.aload_n 0, 1) := by decide +kernel
theorem d_CP_plan_27 : decode c_CP_plan 27 = .ok (.getfield 19, 3) := by decide +kernel
theorem d_CP_plan_30 : decode c_CP_plan 30 = .ok (.iload_n 1, 1) := by decide +kernel
theorem d_CP_plan_31 : decode c_CP_plan 31 = .ok (.iload_n 2, 1) := by decide +kernel
theorem d_CP_plan_32 : decode c_CP_plan 32 = .ok (.invokevirtual 90, 3) := by decide +kernel
theorem d_CP_plan_35 : decode c_CP_plan 35 = .ok (.aload_n 0, 1) := by decide +kernel
theorem d_CP_plan_36 : decode c_CP_plan 36 = .ok (.getfield 19, 3) := by decide +kernel
theorem d_CP_plan_39 : decode c_CP_plan 39 = .ok (.iload_n 1, 1) := by decide +kernel
theorem d_CP_plan_40 : decode c_CP_plan 40 = .ok (.aload_n 0, 1) := by decide +kernel
theorem d_CP_plan_41 : decode c_CP_plan 41 = .ok (.getfield 26, 3) := by decide +kernel
theorem d_CP_plan_44 : decode c_CP_plan 44 = .ok (.getfield 94, 3) := by decide +kernel
theorem d_CP_plan_47 : decode c_CP_plan 47 = .ok (.aload_n 0, 1) := by decide +kernel
theorem d_CP_plan_48 : decode c_CP_plan 48 = .ok (.getfield 26, 3) := by decide +kernel
theorem d_CP_plan_51 : decode c_CP_plan 51 = .ok (.getfield 97, 3) := by decide +kernel
theorem d_CP_plan_54 : decode c_CP_plan 54 = .ok (.invokevirtual 100, 3) := by decide +kernel
theorem d_CP_plan_57 : decode c_CP_plan 57 = .ok (.aload_n 0, 1) := by decide +kernel
theorem d_CP_plan_58 : decode c_CP_plan 58 = .ok (.getfield 26, 3) := by decide +kernel
theorem d_CP_plan_61 : decode c_CP_plan 61 = .ok (.getfield 97, 3) := by decide +kernel
theorem d_CP_plan_64 : decode c_CP_plan 64 = .ok (.ireturn, 1) := by decide +kernel
theorem d_CP_planned_0 : decode c_CP_planned 0 = .ok (.iload_n 1, 1) := by decide +kernel
theorem d_CP_planned_1 : decode c_CP_planned 1 = .ok (.iconst 2, 1) := by decide +kernel
theorem d_CP_planned_2 : decode c_CP_planned 2 = .ok (.invokestatic 54, 3) := by decide +kernel
theorem d_CP_planned_5 : decode c_CP_planned 5 = .ok (.aload_n 0, 1) := by decide +kernel
theorem d_CP_planned_6 : decode c_CP_planned 6 = .ok (.getfield 26, 3) := by decide +kernel
theorem d_CP_planned_9 : decode c_CP_planned 9 = .ok (.getfield 104, 3) := by decide +kernel
theorem d_CP_planned_12 : decode c_CP_planned 12 = .ok (.invokestatic 41, 3) := by decide +kernel
theorem d_CP_planned_15 : decode c_CP_planned 15 = .ok (.iload_n 1, 1) := by decide +kernel
theorem d_CP_planned_16 : decode c_CP_planned 16 = .ok (.iconst 1, 1) := by decide +kernel
theorem d_CP_planned_17 : decode c_CP_planned 17 = .ok (.if_icmp .ne (11), 3) := by decide +kernel
theorem d_CP_planned_20 : decode c_CP_planned 20 = .ok (.aload_n 0, 1) := by decide +kernel
theorem d_CP_planned_21 : decode c_CP_planned 21 = .ok (.getfield 26, 3) := by decide +kernel
theorem d_CP_planned_24 : decode c_CP_planned 24 = .ok (.getfield 108, 3) := by decide +kernel
theorem d_CP_planned_27 : decode c_CP_planned 27 = .ok (.ireturn, 1) := by decide +kernel
theorem d_CP_planned_28 : decode c_CP_planned 28 = .ok (.aload_n 0, 1) := by decide +kernel
theorem d_CP_planned_29 : decode c_CP_planned 29 = .ok (.getfield 26, 3) := by decide +kernel
theorem d_CP_planned_32 : decode c_CP_planned 32 = .ok (.getfield 111, 3) := by decide +kernel
theorem d_CP_planned_35 : decode c_CP_planned 35 = .ok (.ifCond .eq (7), 3) := by decide +kernel
theorem d_CP_planned_38 : decode c_CP_planned 38 = .ok (.iconst 1, 1) := by decide +kernel
theorem d_CP_planned_39 : decode c_CP_planned 39 = .ok (.goto (4), 3) := by decide +kernel
theorem d_CP_planned_42 : decode c_CP_planned 42 = .ok (.iconst 0, 1) := by decide +kernel
theorem d_CP_planned_43 : decode c_CP_planned 43 = .ok (.ireturn, 1) := by decide +kernel
theorem d_CP_amount_0 : decode c_CP_amount 0 = .ok (.iload_n 1, 1) := by decide +kernel
theorem d_CP_amount_1 : decode c_CP_amount 1 = .ok (.aload_n 0, 1) := by decide +kernel
theorem d_CP_amount_2 : decode c_CP_amount 2 = .ok (.getfield 19, 3) := by decide +kernel
theorem d_CP_amount_5 : decode c_CP_amount 5 = .ok (.getfield 81, 3) := by decide +kernel
theorem d_CP_amount_8 : decode c_CP_amount 8 = .ok (.invokestatic 54, 3) := by decide +kernel
theorem d_CP_amount_11 : decode c_CP_amount 11 = .ok (.iload_n 2, 1) := by decide +kernel
theorem d_CP_amount_12 : decode c_CP_amount 12 = .ok (.aload_n 0, 1) := by decide +kernel
theorem d_CP_amount_13 : decode c_CP_amount 13 = .ok (.getfield 10, 3) := by decide +kernel
theorem d_CP_amount_16 : decode c_CP_amount 16 = .ok (.getfield 37, 3) := by decide +kernel
theorem d_CP_amount_19 : decode c_CP_amount 19 = .ok (.invokestatic 54, 3) := by decide +kernel
theorem d_CP_amount_22 : decode c_CP_amount 22 = .ok (.aload_n 0, 1) := by decide +kernel
theorem d_CP_amount_23 : decode c_CP_amount 23 = .ok (.getfield 19, 3) := by decide +kernel
theorem d_CP_amount_26 : decode c_CP_amount 26 = .ok (.iload_n 1, 1) := by decide +kernel
theorem d_CP_amount_27 : decode c_CP_amount 27 = .ok (.invokevirtual 114, 3) := by decide +kernel
theorem d_CP_amount_30 : decode c_CP_amount 30 = .ok (.invokestatic 41, 3) := by decide +kernel
theorem d_CP_amount_33 : decode c_CP_amount 33 = .ok (.aload_n 0, 1) := by decide +kernel
theorem d_CP_amount_34 : decode c_CP_amount 34 = .ok (.getfield 19, 3) := by decide +kernel
theorem d_CP_amount_37 : decode c_CP_amount 37 = .ok (.getfield 118, 3) := by decide +kernel
theorem d_CP_amount_40 : decode c_CP_amount 40 = .ok (.iload_n 1, 1) := by decide +kernel
theorem d_CP_amount_41 : decode c_CP_amount 41 = .ok (.iconst 5, 1) := by decide +kernel
theorem d_CP_amount_42 : decode c_CP_amount 42 = .ok (.imul, 1) := by decide +kernel
theorem d_CP_amount_43 : decode c_CP_amount 43 = .ok (.iload_n 2, 1) := by decide +kernel
theorem d_CP_amount_44 : decode c_CP_amount 44 = .ok (.iadd, 1) := by decide +kernel
theorem d_CP_amount_45 : decode c_CP_amount 45 = .ok (.iaload, 1) := by decide +kernel
theorem d_CP_amount_46 : decode c_CP_amount 46 = .ok (.ireturn, 1) := by decide +kernel
theorem d_CP_worst_0 : decode c_CP_worst 0 = .ok (.iload_n 1, 1) := by decide +kernel
theorem d_CP_worst_1 : decode c_CP_worst 1 = .ok (.aload_n 0, 1) := by decide +kernel
theorem d_CP_worst_2 : decode c_CP_worst 2 = .ok (.getfield 19, 3) := by decide +kernel
theorem d_CP_worst_5 : decode c_CP_worst 5 = .ok (.getfield 81, 3) := by decide +kernel
theorem d_CP_worst_8 : decode c_CP_worst 8 = .ok (.invokestatic 54, 3) := by decide +kernel
theorem d_CP_worst_11 : decode c_CP_worst 11 = .ok (.iload_n 2, 1) := by decide +kernel
theorem d_CP_worst_12 : decode c_CP_worst 12 = .ok (.iconst 4, 1) := by decide +kernel
theorem d_CP_worst_13 : decode c_CP_worst 13 = .ok (.invokestatic 54, 3) := by decide +kernel
theorem d_CP_worst_16 : decode c_CP_worst 16 = .ok (.iload_n 3, 1) := by decide +kernel
theorem d_CP_worst_17 : decode c_CP_worst 17 = .ok (.iconst 2, 1) := by decide +kernel
theorem d_CP_worst_18 : decode c_CP_worst 18 = .ok (.invokestatic 54, 3) := by decide +kernel
theorem d_CP_worst_21 : decode c_CP_worst 21 = .ok (.iload 4, 2) := by decide +kernel
theorem d_CP_worst_23 : decode c_CP_worst 23 = .ok (.iconst 2, 1) := by decide +kernel
theorem d_CP_worst_24 : decode c_CP_worst 24 = .ok (.invokestatic 54, 3) := by decide +kernel
theorem d_CP_worst_27 : decode c_CP_worst 27 = .ok (.aload_n 0, 1) := by decide +kernel
theorem d_CP_worst_28 : decode c_CP_worst 28 = .ok (.getfield 19, 3) := by decide +kernel
theorem d_CP_worst_31 : decode c_CP_worst 31 = .ok (.iload_n 1, 1) := by decide +kernel
theorem d_CP_worst_32 : decode c_CP_worst 32 = .ok (.invokevirtual 114, 3) := by decide +kernel
theorem d_CP_worst_35 : decode c_CP_worst 35 = .ok (.invokestatic 41, 3) := by decide +kernel
theorem d_CP_worst_38 : decode c_CP_worst 38 = .ok (.aload_n 0, 1) := by decide +kernel
theorem d_CP_worst_39 : decode c_CP_worst 39 = .ok (.iload_n 1, 1) := by decide +kernel
theorem d_CP_worst_40 : decode c_CP_worst 40 = .ok (.invokevirtual 121, 3) := by decide +kernel
theorem d_CP_worst_43 : decode c_CP_worst 43 = .ok (.lstore 5, 2) := by decide +kernel
theorem d_CP_worst_45 : decode c_CP_worst 45 = .ok (.lload 5, 2) := by decide +kernel
theorem d_CP_worst_47 : decode c_CP_worst 47 = .ok (.lconst 0, 1) := by decide +kernel
theorem d_CP_worst_48 : decode c_CP_worst 48 = .ok (.lcmp, 1) := by decide +kernel
theorem d_CP_worst_49 : decode c_CP_worst 49 = .ok (.ifCond .le (7), 3) := by decide +kernel
theorem d_CP_worst_52 : decode c_CP_worst 52 = .ok (.iconst 1, 1) := by decide +kernel
theorem d_CP_worst_53 : decode c_CP_worst 53 = .ok (.goto (4), 3) := by decide +kernel
theorem d_CP_worst_56 : decode c_CP_worst 56 = .ok (.iconst 0, 1) := by decide +kernel
theorem d_CP_worst_57 : decode c_CP_worst 57 = .ok (.invokestatic 78, 3) := by decide +kernel
theorem d_CP_worst_60 : decode c_CP_worst 60 = .ok (.aload_n 0, 1) := by decide +kernel
theorem d_CP_worst_61 : decode c_CP_worst 61 = .ok (.iload_n 1, 1) := by decide +kernel
theorem d_CP_worst_62 : decode c_CP_worst 62 = .ok (.iload_n 2, 1) := by decide +kernel
theorem d_CP_worst_63 : decode c_CP_worst 63 = .ok (.iload_n 3, 1) := by decide +kernel
theorem d_CP_worst_64 : decode c_CP_worst 64 = .ok (.ifCond .ne (13), 3) := by decide +kernel
theorem d_CP_worst_67 : decode c_CP_worst 67 = .ok (.aload_n 0, 1) := by decide +kernel
theorem d_CP_worst_68 : decode c_CP_worst 68 = .ok (.getfield 10, 3) := by decide +kernel
theorem d_CP_worst_71 : decode c_CP_worst 71 = .ok (.getfield 62, 3) := by decide +kernel
theorem d_CP_worst_74 : decode c_CP_worst 74 = .ok (.goto (10), 3) := by decide +kernel
theorem d_CP_worst_77 : decode c_CP_worst 77 = .ok (.aload_n 0, 1) := by decide +kernel
theorem d_CP_worst_78 : decode c_CP_worst 78 = .ok (.getfield 10, 3) := by decide +kernel
theorem d_CP_worst_81 : decode c_CP_worst 81 = .ok (.getfield 66, 3) := by decide +kernel
theorem d_CP_worst_84 : decode c_CP_worst 84 = .ok (.invokevirtual 125, 3) := by decide +kernel
theorem d_CP_worst_87 : decode c_CP_worst 87 = .ok (.lstore 7, 2) := by decide +kernel
theorem d_CP_worst_89 : decode c_CP_worst 89 = .ok (.iload 4, 2) := by decide +kernel
theorem d_CP_worst_91 : decode c_CP_worst 91 = .ok (.ifCond .ne (8), 3) := by decide +kernel
theorem d_CP_worst_94 : decode c_CP_worst 94 = .ok (.lload 7, 2) := by decide +kernel
theorem d_CP_worst_96 : decode c_CP_worst 96 = .ok (.goto (5), 3) := by decide +kernel
theorem d_CP_worst_99 : decode c_CP_worst 99 = .ok (.lload 5, 2) := by decide +kernel
theorem d_CP_worst_101 : decode c_CP_worst 101 = .ok (.lload 7, 2) := by decide +kernel
theorem d_CP_worst_103 : decode c_CP_worst 103 = .ok (.lload 5, 2) := by decide +kernel
theorem d_CP_worst_105 : decode c_CP_worst 105 = .ok (.invokestatic 129, 3) := by decide +kernel
theorem d_CP_worst_108 : decode c_CP_worst 108 = .ok (.ldiv, 1) := by decide +kernel
theorem d_CP_worst_109 : decode c_CP_worst 109 = .ok (.lreturn, 1) := by decide +kernel
theorem d_CP_bound_0 : decode c_CP_bound 0 = .ok (.iload_n 1, 1) := by decide +kernel
theorem d_CP_bound_1 : decode c_CP_bound 1 = .ok (.aload_n 0, 1) := by decide +kernel
theorem d_CP_bound_2 : decode c_CP_bound 2 = .ok (.getfield 19, 3) := by decide +kernel
theorem d_CP_bound_5 : decode c_CP_bound 5 = .ok (.getfield 81, 3) := by decide +kernel
theorem d_CP_bound_8 : decode c_CP_bound 8 = .ok (.invokestatic 54, 3) := by decide +kernel
theorem d_CP_bound_11 : decode c_CP_bound 11 = .ok (.ldc2_w 133, 3) := by decide +kernel
theorem d_CP_bound_14 : decode c_CP_bound 14 = .ok (.lstore_n 2, 1) := by decide +kernel
theorem d_CP_bound_15 : decode c_CP_bound 15 = .ok (.iconst 0, 1) := by decide +kernel
theorem d_CP_bound_16 : decode c_CP_bound 16 = .ok (.istore 4, 2) := by decide +kernel
theorem d_CP_bound_18 : decode c_CP_bound 18 = .ok (.iload 4, 2) := by decide +kernel
theorem d_CP_bound_20 : decode c_CP_bound 20 = .ok (.aload_n 0, 1) := by decide +kernel
theorem d_CP_bound_21 : decode c_CP_bound 21 = .ok (.getfield 10, 3) := by decide +kernel
theorem d_CP_bound_24 : decode c_CP_bound 24 = .ok (.getfield 37, 3) := by decide +kernel
theorem d_CP_bound_27 : decode c_CP_bound 27 = .ok (.if_icmp .ge (93), 3) := by decide +kernel
theorem d_CP_bound_30 : decode c_CP_bound 30 = .ok (.aload_n 0, 1) := by decide +kernel
theorem d_CP_bound_31 : decode c_CP_bound 31 = .ok (.getfield 10, 3) := by decide +kernel
theorem d_CP_bound_34 : decode c_CP_bound 34 = .ok (.getfield 135, 3) := by decide +kernel
theorem d_CP_bound_37 : decode c_CP_bound 37 = .ok (.iload 4, 2) := by decide +kernel
theorem d_CP_bound_39 : decode c_CP_bound 39 = .ok (.iaload, 1) := by decide +kernel
theorem d_CP_bound_40 : decode c_CP_bound 40 = .ok (.i2l, 1) := by decide +kernel
theorem d_CP_bound_41 : decode c_CP_bound 41 = .ok (.lstore 5, 2) := by decide +kernel
theorem d_CP_bound_43 : decode c_CP_bound 43 = .ok (.aload_n 0, 1) := by decide +kernel
theorem d_CP_bound_44 : decode c_CP_bound 44 = .ok (.getfield 10, 3) := by decide +kernel
theorem d_CP_bound_47 : decode c_CP_bound 47 = .ok (.iload 4, 2) := by decide +kernel
theorem d_CP_bound_49 : decode c_CP_bound 49 = .ok (.invokevirtual 138, 3) := by decide +kernel
theorem d_CP_bound_52 : decode c_CP_bound 52 = .ok (.ifCond .le (62), 3) := by decide +kernel
theorem d_CP_bound_55 : decode c_CP_bound 55 = .ok (.lload 5, 2) := by decide +kernel
theorem d_CP_bound_57 : decode c_CP_bound 57 = .ok (.lconst 0, 1) := by decide +kernel
theorem d_CP_bound_58 : decode c_CP_bound 58 = .ok (.lcmp, 1) := by decide +kernel
theorem d_CP_bound_59 : decode c_CP_bound 59 = .ok (.ifCond .le (55), 3) := by decide +kernel
theorem d_CP_bound_62 : decode c_CP_bound 62 = .ok (.aload_n 0, 1) := by decide +kernel
theorem d_CP_bound_63 : decode c_CP_bound 63 = .ok (.getfield 19, 3) := by decide +kernel
theorem d_CP_bound_66 : decode c_CP_bound 66 = .ok (.getfield 142, 3) := by decide +kernel
theorem d_CP_bound_69 : decode c_CP_bound 69 = .ok (.iload_n 1, 1) := by decide +kernel
theorem d_CP_bound_70 : decode c_CP_bound 70 = .ok (.iaload, 1) := by decide +kernel
theorem d_CP_bound_71 : decode c_CP_bound 71 = .ok (.i2l, 1) := by decide +kernel
theorem d_CP_bound_72 : decode c_CP_bound 72 = .ok (.aload_n 0, 1) := by decide +kernel
theorem d_CP_bound_73 : decode c_CP_bound 73 = .ok (.getfield 10, 3) := by decide +kernel
theorem d_CP_bound_76 : decode c_CP_bound 76 = .ok (.getfield 145, 3) := by decide +kernel
theorem d_CP_bound_79 : decode c_CP_bound 79 = .ok (.iload 4, 2) := by decide +kernel
theorem d_CP_bound_81 : decode c_CP_bound 81 = .ok (.iaload, 1) := by decide +kernel
theorem d_CP_bound_82 : decode c_CP_bound 82 = .ok (.i2l, 1) := by decide +kernel
theorem d_CP_bound_83 : decode c_CP_bound 83 = .ok (.lmul, 1) := by decide +kernel
theorem d_CP_bound_84 : decode c_CP_bound 84 = .ok (.lload 5, 2) := by decide +kernel
theorem d_CP_bound_86 : decode c_CP_bound 86 = .ok (.ladd, 1) := by decide +kernel
theorem d_CP_bound_87 : decode c_CP_bound 87 = .ok (.lconst 1, 1) := by decide +kernel
theorem d_CP_bound_88 : decode c_CP_bound 88 = .ok (.lsub, 1) := by decide +kernel
theorem d_CP_bound_89 : decode c_CP_bound 89 = .ok (.lload 5, 2) := by decide +kernel
theorem d_CP_bound_91 : decode c_CP_bound 91 = .ok (.ldiv, 1) := by decide +kernel
theorem d_CP_bound_92 : decode c_CP_bound 92 = .ok (.lstore 7, 2) := by decide +kernel
theorem d_CP_bound_94 : decode c_CP_bound 94 = .ok (.lload_n 2, 1) := by decide +kernel
theorem d_CP_bound_95 : decode c_CP_bound 95 = .ok (.ldc2_w 133, 3) := by decide +kernel
theorem d_CP_bound_98 : decode c_CP_bound 98 = .ok (.lcmp, 1) := by decide +kernel
theorem d_CP_bound_99 : decode c_CP_bound 99 = .ok (.ifCond .ne (8), 3) := by decide +kernel
theorem d_CP_bound_102 : decode c_CP_bound 102 = .ok (.lload 7, 2) := by decide +kernel
theorem d_CP_bound_104 : decode c_CP_bound 104 = .ok (.goto (9), 3) := by decide +kernel
end
section
theorem d_CP_bound_107 : decode c_CP_bound 107 = .ok (.lload_n 2, 1) := by decide +kernel
theorem d_CP_bound_108 : decode c_CP_bound 108 = .ok (.lload 7, 2) := by decide +kernel
theorem d_CP_bound_110 : decode c_CP_bound 110 = .ok (.invokestatic 148, 3) := by decide +kernel
theorem d_CP_bound_113 : decode c_CP_bound 113 = .ok (.lstore_n 2, 1) := by decide +kernel
theorem d_CP_bound_114 : decode c_CP_bound 114 = .ok (.iinc 4 (1), 3) := by decide +kernel
theorem d_CP_bound_117 : decode c_CP_bound 117 = .ok (.goto (-99), 3) := by decide +kernel
theorem d_CP_bound_120 : decode c_CP_bound 120 = .ok (.lload_n 2, 1) := by decide +kernel
theorem d_CP_bound_121 : decode c_CP_bound 121 = .ok (.ldc2_w 133, 3) := by decide +kernel
theorem d_CP_bound_124 : decode c_CP_bound 124 = .ok (.lcmp, 1) := by decide +kernel
theorem d_CP_bound_125 : decode c_CP_bound 125 = .ok (.ifCond .eq (7), 3) := by decide +kernel
theorem d_CP_bound_128 : decode c_CP_bound 128 = .ok (.iconst 1, 1) := by decide +kernel
theorem d_CP_bound_129 : decode c_CP_bound 129 = .ok (.goto (4), 3) := by decide +kernel
theorem d_CP_bound_132 : decode c_CP_bound 132 = .ok (.iconst 0, 1) := by decide +kernel
theorem d_CP_bound_133 : decode c_CP_bound 133 = .ok (.invokestatic 78, 3) := by decide +kernel
theorem d_CP_bound_136 : decode c_CP_bound 136 = .ok (.lload_n 2, 1) := by decide +kernel
theorem d_CP_bound_137 : decode c_CP_bound 137 = .ok (.lreturn, 1) := by decide +kernel
theorem d_CP_clash_0 : decode c_CP_clash 0 = .ok (.iload_n 1, 1) := by decide +kernel
theorem d_CP_clash_1 : decode c_CP_clash 1 = .ok (.aload_n 0, 1) := by decide +kernel
theorem d_CP_clash_2 : decode c_CP_clash 2 = .ok (.getfield 19, 3) := by decide +kernel
theorem d_CP_clash_5 : decode c_CP_clash 5 = .ok (.getfield 81, 3) := by decide +kernel
theorem d_CP_clash_8 : decode c_CP_clash 8 = .ok (.invokestatic 54, 3) := by decide +kernel
theorem d_CP_clash_11 : decode c_CP_clash 11 = .ok (.aload_n 0, 1) := by decide +kernel
theorem d_CP_clash_12 : decode c_CP_clash 12 = .ok (.getfield 33, 3) := by decide +kernel
theorem d_CP_clash_15 : decode c_CP_clash 15 = .ok (.aload_n 0, 1) := by decide +kernel
theorem d_CP_clash_16 : decode c_CP_clash 16 = .ok (.getfield 10, 3) := by decide +kernel
theorem d_CP_clash_19 : decode c_CP_clash 19 = .ok (.aload_n 0, 1) := by decide +kernel
theorem d_CP_clash_20 : decode c_CP_clash 20 = .ok (.getfield 19, 3) := by decide +kernel
theorem d_CP_clash_23 : decode c_CP_clash 23 = .ok (.iload_n 1, 1) := by decide +kernel
theorem d_CP_clash_24 : decode c_CP_clash 24 = .ok (.invokevirtual 153, 3) := by decide +kernel
theorem d_CP_clash_27 : decode c_CP_clash 27 = .ok (.ireturn, 1) := by decide +kernel
theorem d_CP_take_0 : decode c_CP_take 0 = .ok (.iload_n 1, 1) := by decide +kernel
theorem d_CP_take_1 : decode c_CP_take 1 = .ok (.aload_n 0, 1) := by decide +kernel
theorem d_CP_take_2 : decode c_CP_take 2 = .ok (.getfield 19, 3) := by decide +kernel
theorem d_CP_take_5 : decode c_CP_take 5 = .ok (.getfield 81, 3) := by decide +kernel
theorem d_CP_take_8 : decode c_CP_take 8 = .ok (.invokestatic 54, 3) := by decide +kernel
theorem d_CP_take_11 : decode c_CP_take 11 = .ok (.aload_n 0, 1) := by decide +kernel
theorem d_CP_take_12 : decode c_CP_take 12 = .ok (.getfield 19, 3) := by decide +kernel
theorem d_CP_take_15 : decode c_CP_take 15 = .ok (.iload_n 1, 1) := by decide +kernel
theorem d_CP_take_16 : decode c_CP_take 16 = .ok (.invokevirtual 114, 3) := by decide +kernel
theorem d_CP_take_19 : decode c_CP_take 19 = .ok (.invokestatic 41, 3) := by decide +kernel
theorem d_CP_take_22 : decode c_CP_take 22 = .ok (.aload_n 0, 1) := by decide +kernel
theorem d_CP_take_23 : decode c_CP_take 23 = .ok (.iload_n 1, 1) := by decide +kernel
theorem d_CP_take_24 : decode c_CP_take 24 = .ok (.invokevirtual 157, 3) := by decide +kernel
theorem d_CP_take_27 : decode c_CP_take 27 = .ok (.invokestatic 78, 3) := by decide +kernel
theorem d_CP_take_30 : decode c_CP_take 30 = .ok (.iconst 0, 1) := by decide +kernel
theorem d_CP_take_31 : decode c_CP_take 31 = .ok (.istore_n 2, 1) := by decide +kernel
theorem d_CP_take_32 : decode c_CP_take 32 = .ok (.iload_n 2, 1) := by decide +kernel
theorem d_CP_take_33 : decode c_CP_take 33 = .ok (.aload_n 0, 1) := by decide +kernel
theorem d_CP_take_34 : decode c_CP_take 34 = .ok (.getfield 10, 3) := by decide +kernel
theorem d_CP_take_37 : decode c_CP_take 37 = .ok (.getfield 37, 3) := by decide +kernel
theorem d_CP_take_40 : decode c_CP_take 40 = .ok (.if_icmp .ge (34), 3) := by decide +kernel
theorem d_CP_take_43 : decode c_CP_take 43 = .ok (.aload_n 0, 1) := by decide +kernel
theorem d_CP_take_44 : decode c_CP_take 44 = .ok (.getfield 10, 3) := by decide +kernel
theorem d_CP_take_47 : decode c_CP_take 47 = .ok (.getfield 75, 3) := by decide +kernel
theorem d_CP_take_50 : decode c_CP_take 50 = .ok (.iload_n 2, 1) := by decide +kernel
theorem d_CP_take_51 : decode c_CP_take 51 = .ok (.dup2, 1) := by decide +kernel
theorem d_CP_take_52 : decode c_CP_take 52 = .ok (.iaload, 1) := by decide +kernel
theorem d_CP_take_53 : decode c_CP_take 53 = .ok (.aload_n 0, 1) := by decide +kernel
theorem d_CP_take_54 : decode c_CP_take 54 = .ok (.getfield 19, 3) := by decide +kernel
theorem d_CP_take_57 : decode c_CP_take 57 = .ok (.getfield 118, 3) := by decide +kernel
theorem d_CP_take_60 : decode c_CP_take 60 = .ok (.iload_n 1, 1) := by decide +kernel
theorem d_CP_take_61 : decode c_CP_take 61 = .ok (.iconst 5, 1) := by decide +kernel
theorem d_CP_take_62 : decode c_CP_take 62 = .ok (.imul, 1) := by decide +kernel
theorem d_CP_take_63 : decode c_CP_take 63 = .ok (.iload_n 2, 1) := by decide +kernel
theorem d_CP_take_64 : decode c_CP_take 64 = .ok (.iadd, 1) := by decide +kernel
theorem d_CP_take_65 : decode c_CP_take 65 = .ok (.iaload, 1) := by decide +kernel
theorem d_CP_take_66 : decode c_CP_take 66 = .ok (.isub, 1) := by decide +kernel
theorem d_CP_take_67 : decode c_CP_take 67 = .ok (.iastore, 1) := by decide +kernel
theorem d_CP_take_68 : decode c_CP_take 68 = .ok (.iinc 2 (1), 3) := by decide +kernel
theorem d_CP_take_71 : decode c_CP_take 71 = .ok (.goto (-39), 3) := by decide +kernel
theorem d_CP_take_74 : decode c_CP_take 74 = .ok (.aload_n 0, 1) := by decide +kernel
theorem d_CP_take_75 : decode c_CP_take 75 = .ok (.getfield 19, 3) := by decide +kernel
theorem d_CP_take_78 : decode c_CP_take 78 = .ok (.getfield 160, 3) := by decide +kernel
theorem d_CP_take_81 : decode c_CP_take 81 = .ok (.iload_n 1, 1) := by decide +kernel
theorem d_CP_take_82 : decode c_CP_take 82 = .ok (.iaload, 1) := by decide +kernel
theorem d_CP_take_83 : decode c_CP_take 83 = .ok (.istore_n 2, 1) := by decide +kernel
theorem d_CP_take_84 : decode c_CP_take 84 = .ok (.aload_n 0, 1) := by decide +kernel
theorem d_CP_take_85 : decode c_CP_take 85 = .ok (.getfield 19, 3) := by decide +kernel
theorem d_CP_take_88 : decode c_CP_take 88 = .ok (.getfield 160, 3) := by decide +kernel
theorem d_CP_take_91 : decode c_CP_take 91 = .ok (.iload_n 1, 1) := by decide +kernel
theorem d_CP_take_92 : decode c_CP_take 92 = .ok (.iconst (-1), 1) := by decide +kernel
theorem d_CP_take_93 : decode c_CP_take 93 = .ok (.iastore, 1) := by decide +kernel
theorem d_CP_take_94 : decode c_CP_take 94 = .ok (.iload_n 2, 1) := by decide +kernel
theorem d_CP_take_95 : decode c_CP_take 95 = .ok (.ireturn, 1) := by decide +kernel
theorem d_CP_stock_0 : decode c_CP_stock 0 = .ok (.iload_n 1, 1) := by decide +kernel
theorem d_CP_stock_1 : decode c_CP_stock 1 = .ok (.aload_n 0, 1) := by decide +kernel
theorem d_CP_stock_2 : decode c_CP_stock 2 = .ok (.getfield 10, 3) := by decide +kernel
theorem d_CP_stock_5 : decode c_CP_stock 5 = .ok (.getfield 37, 3) := by decide +kernel
theorem d_CP_stock_8 : decode c_CP_stock 8 = .ok (.invokestatic 54, 3) := by decide +kernel
theorem d_CP_stock_11 : decode c_CP_stock 11 = .ok (.aload_n 0, 1) := by decide +kernel
theorem d_CP_stock_12 : decode c_CP_stock 12 = .ok (.getfield 10, 3) := by decide +kernel
theorem d_CP_stock_15 : decode c_CP_stock 15 = .ok (.getfield 75, 3) := by decide +kernel
theorem d_CP_stock_18 : decode c_CP_stock 18 = .ok (.iload_n 1, 1) := by decide +kernel
theorem d_CP_stock_19 : decode c_CP_stock 19 = .ok (.iaload, 1) := by decide +kernel
theorem d_CP_stock_20 : decode c_CP_stock 20 = .ok (.ireturn, 1) := by decide +kernel
theorem d_CP_enoughLeft_0 : decode c_CP_enoughLeft 0 = .ok (.iconst 0, 1) := by decide +kernel
theorem d_CP_enoughLeft_1 : decode c_CP_enoughLeft 1 = .ok (.istore_n 2, 1) := by decide +kernel
theorem d_CP_enoughLeft_2 : decode c_CP_enoughLeft 2 = .ok (.iload_n 2, 1) := by decide +kernel
theorem d_CP_enoughLeft_3 : decode c_CP_enoughLeft 3 = .ok (.aload_n 0, 1) := by decide +kernel
theorem d_CP_enoughLeft_4 : decode c_CP_enoughLeft 4 = .ok (.getfield 10, 3) := by decide +kernel
theorem d_CP_enoughLeft_7 : decode c_CP_enoughLeft 7 = .ok (.getfield 37, 3) := by decide +kernel
theorem d_CP_enoughLeft_10 : decode c_CP_enoughLeft 10 = .ok (.if_icmp .ge (36), 3) := by decide +kernel
theorem d_CP_enoughLeft_13 : decode c_CP_enoughLeft 13 = .ok (.aload_n 0, 1) := by decide +kernel
theorem d_CP_enoughLeft_14 : decode c_CP_enoughLeft 14 = .ok (.getfield 10, 3) := by decide +kernel
theorem d_CP_enoughLeft_17 : decode c_CP_enoughLeft 17 = .ok (.getfield 75, 3) := by decide +kernel
theorem d_CP_enoughLeft_20 : decode c_CP_enoughLeft 20 = .ok (.iload_n 2, 1) := by decide +kernel
theorem d_CP_enoughLeft_21 : decode c_CP_enoughLeft 21 = .ok (.iaload, 1) := by decide +kernel
theorem d_CP_enoughLeft_22 : decode c_CP_enoughLeft 22 = .ok (.aload_n 0, 1) := by decide +kernel
theorem d_CP_enoughLeft_23 : decode c_CP_enoughLeft 23 = .ok (.getfield 19, 3) := by decide +kernel
theorem d_CP_enoughLeft_26 : decode c_CP_enoughLeft 26 = .ok (.getfield 118, 3) := by decide +kernel
theorem d_CP_enoughLeft_29 : decode c_CP_enoughLeft 29 = .ok (.iload_n 1, 1) := by decide +kernel
theorem d_CP_enoughLeft_30 : decode c_CP_enoughLeft 30 = .ok (.iconst 5, 1) := by decide +kernel
theorem d_CP_enoughLeft_31 : decode c_CP_enoughLeft 31 = .ok (.imul, 1) := by decide +kernel
theorem d_CP_enoughLeft_32 : decode c_CP_enoughLeft 32 = .ok (.iload_n 2, 1) := by decide +kernel
theorem d_CP_enoughLeft_33 : decode c_CP_enoughLeft 33 = .ok (.iadd, 1) := by decide +kernel
theorem d_CP_enoughLeft_34 : decode c_CP_enoughLeft 34 = .ok (.iaload, 1) := by decide +kernel
theorem d_CP_enoughLeft_35 : decode c_CP_enoughLeft 35 = .ok (.if_icmp .ge (5), 3) := by decide +kernel
theorem d_CP_enoughLeft_38 : decode c_CP_enoughLeft 38 = .ok (.iconst 0, 1) := by decide +kernel
theorem d_CP_enoughLeft_39 : decode c_CP_enoughLeft 39 = .ok (.ireturn, 1) := by decide +kernel
theorem d_CP_enoughLeft_40 : decode c_CP_enoughLeft 40 = .ok (.iinc 2 (1), 3) := by decide +kernel
theorem d_CP_enoughLeft_43 : decode c_CP_enoughLeft 43 = .ok (.goto (-41), 3) := by decide +kernel
theorem d_CP_enoughLeft_46 : decode c_CP_enoughLeft 46 = .ok (.iconst 1, 1) := by decide +kernel
theorem d_CP_enoughLeft_47 : decode c_CP_enoughLeft 47 = .ok (.ireturn, 1) := by decide +kernel
theorem d_CP_plannedKilos_0 : decode c_CP_plannedKilos 0 = .ok (.lconst 0, 1) := by decide +kernel
theorem d_CP_plannedKilos_1 : decode c_CP_plannedKilos 1 = .ok (.lstore_n 2, 1) := by decide +kernel
theorem d_CP_plannedKilos_2 : decode c_CP_plannedKilos 2 = .ok (.iconst 0, 1) := by decide +kernel
theorem d_CP_plannedKilos_3 : decode c_CP_plannedKilos 3 = .ok (.istore 4, 2) := by decide +kernel
theorem d_CP_plannedKilos_5 : decode c_CP_plannedKilos 5 = .ok (.iload 4, 2) := by decide +kernel
theorem d_CP_plannedKilos_7 : decode c_CP_plannedKilos 7 = .ok (.aload_n 0, 1) := by decide +kernel
theorem d_CP_plannedKilos_8 : decode c_CP_plannedKilos 8 = .ok (.getfield 10, 3) := by decide +kernel
theorem d_CP_plannedKilos_11 : decode c_CP_plannedKilos 11 = .ok (.getfield 37, 3) := by decide +kernel
theorem d_CP_plannedKilos_14 : decode c_CP_plannedKilos 14 = .ok (.if_icmp .ge (39), 3) := by decide +kernel
theorem d_CP_plannedKilos_17 : decode c_CP_plannedKilos 17 = .ok (.lload_n 2, 1) := by decide +kernel
theorem d_CP_plannedKilos_18 : decode c_CP_plannedKilos 18 = .ok (.aload_n 0, 1) := by decide +kernel
theorem d_CP_plannedKilos_19 : decode c_CP_plannedKilos 19 = .ok (.getfield 19, 3) := by decide +kernel
theorem d_CP_plannedKilos_22 : decode c_CP_plannedKilos 22 = .ok (.getfield 118, 3) := by decide +kernel
theorem d_CP_plannedKilos_25 : decode c_CP_plannedKilos 25 = .ok (.iload_n 1, 1) := by decide +kernel
theorem d_CP_plannedKilos_26 : decode c_CP_plannedKilos 26 = .ok (.iconst 5, 1) := by decide +kernel
theorem d_CP_plannedKilos_27 : decode c_CP_plannedKilos 27 = .ok (.imul, 1) := by decide +kernel
theorem d_CP_plannedKilos_28 : decode c_CP_plannedKilos 28 = .ok (.iload 4, 2) := by decide +kernel
theorem d_CP_plannedKilos_30 : decode c_CP_plannedKilos 30 = .ok (.iadd, 1) := by decide +kernel
theorem d_CP_plannedKilos_31 : decode c_CP_plannedKilos 31 = .ok (.iaload, 1) := by decide +kernel
theorem d_CP_plannedKilos_32 : decode c_CP_plannedKilos 32 = .ok (.i2l, 1) := by decide +kernel
theorem d_CP_plannedKilos_33 : decode c_CP_plannedKilos 33 = .ok (.aload_n 0, 1) := by decide +kernel
theorem d_CP_plannedKilos_34 : decode c_CP_plannedKilos 34 = .ok (.getfield 10, 3) := by decide +kernel
theorem d_CP_plannedKilos_37 : decode c_CP_plannedKilos 37 = .ok (.getfield 135, 3) := by decide +kernel
theorem d_CP_plannedKilos_40 : decode c_CP_plannedKilos 40 = .ok (.iload 4, 2) := by decide +kernel
theorem d_CP_plannedKilos_42 : decode c_CP_plannedKilos 42 = .ok (.iaload, 1) := by decide +kernel
theorem d_CP_plannedKilos_43 : decode c_CP_plannedKilos 43 = .ok (.i2l, 1) := by decide +kernel
theorem d_CP_plannedKilos_44 : decode c_CP_plannedKilos 44 = .ok (.lmul, 1) := by decide +kernel
theorem d_CP_plannedKilos_45 : decode c_CP_plannedKilos 45 = .ok (.ladd, 1) := by decide +kernel
theorem d_CP_plannedKilos_46 : decode c_CP_plannedKilos 46 = .ok (.lstore_n 2, 1) := by decide +kernel
theorem d_CP_plannedKilos_47 : decode c_CP_plannedKilos 47 = .ok (.iinc 4 (1), 3) := by decide +kernel
theorem d_CP_plannedKilos_50 : decode c_CP_plannedKilos 50 = .ok (.goto (-45), 3) := by decide +kernel
theorem d_CP_plannedKilos_53 : decode c_CP_plannedKilos 53 = .ok (.lload_n 2, 1) := by decide +kernel
theorem d_CP_plannedKilos_54 : decode c_CP_plannedKilos 54 = .ok (.lreturn, 1) := by decide +kernel
theorem d_CP_plannedShares_0 : decode c_CP_plannedShares 0 = .ok (.lconst 0, 1) := by decide +kernel
theorem d_CP_plannedShares_1 : decode c_CP_plannedShares 1 = .ok (.lstore 4, 2) := by decide +kernel
theorem d_CP_plannedShares_3 : decode c_CP_plannedShares 3 = .ok (.iconst 0, 1) := by decide +kernel
theorem d_CP_plannedShares_4 : decode c_CP_plannedShares 4 = .ok (.istore 6, 2) := by decide +kernel
theorem d_CP_plannedShares_6 : decode c_CP_plannedShares 6 = .ok (.iload 6, 2) := by decide +kernel
theorem d_CP_plannedShares_8 : decode c_CP_plannedShares 8 = .ok (.aload_n 0, 1) := by decide +kernel
theorem d_CP_plannedShares_9 : decode c_CP_plannedShares 9 = .ok (.getfield 10, 3) := by decide +kernel
theorem d_CP_plannedShares_12 : decode c_CP_plannedShares 12 = .ok (.getfield 37, 3) := by decide +kernel
theorem d_CP_plannedShares_15 : decode c_CP_plannedShares 15 = .ok (.if_icmp .ge (55), 3) := by decide +kernel
theorem d_CP_plannedShares_18 : decode c_CP_plannedShares 18 = .ok (.aload_n 0, 1) := by decide +kernel
theorem d_CP_plannedShares_19 : decode c_CP_plannedShares 19 = .ok (.getfield 19, 3) := by decide +kernel
theorem d_CP_plannedShares_22 : decode c_CP_plannedShares 22 = .ok (.getfield 118, 3) := by decide +kernel
theorem d_CP_plannedShares_25 : decode c_CP_plannedShares 25 = .ok (.iload_n 1, 1) := by decide +kernel
theorem d_CP_plannedShares_26 : decode c_CP_plannedShares 26 = .ok (.iconst 5, 1) := by decide +kernel
theorem d_CP_plannedShares_27 : decode c_CP_plannedShares 27 = .ok (.imul, 1) := by decide +kernel
theorem d_CP_plannedShares_28 : decode c_CP_plannedShares 28 = .ok (.iload 6, 2) := by decide +kernel
theorem d_CP_plannedShares_30 : decode c_CP_plannedShares 30 = .ok (.iadd, 1) := by decide +kernel
theorem d_CP_plannedShares_31 : decode c_CP_plannedShares 31 = .ok (.iaload, 1) := by decide +kernel
theorem d_CP_plannedShares_32 : decode c_CP_plannedShares 32 = .ok (.i2l, 1) := by decide +kernel
theorem d_CP_plannedShares_33 : decode c_CP_plannedShares 33 = .ok (.aload_n 0, 1) := by decide +kernel
theorem d_CP_plannedShares_34 : decode c_CP_plannedShares 34 = .ok (.getfield 10, 3) := by decide +kernel
theorem d_CP_plannedShares_37 : decode c_CP_plannedShares 37 = .ok (.getfield 135, 3) := by decide +kernel
theorem d_CP_plannedShares_40 : decode c_CP_plannedShares 40 = .ok (.iload 6, 2) := by decide +kernel
theorem d_CP_plannedShares_42 : decode c_CP_plannedShares 42 = .ok (.iaload, 1) := by decide +kernel
theorem d_CP_plannedShares_43 : decode c_CP_plannedShares 43 = .ok (.i2l, 1) := by decide +kernel
theorem d_CP_plannedShares_44 : decode c_CP_plannedShares 44 = .ok (.lmul, 1) := by decide +kernel
theorem d_CP_plannedShares_45 : decode c_CP_plannedShares 45 = .ok (.lstore 7, 2) := by decide +kernel
theorem d_CP_plannedShares_47 : decode c_CP_plannedShares 47 = .ok (.lload 4, 2) := by decide +kernel
theorem d_CP_plannedShares_49 : decode c_CP_plannedShares 49 = .ok (.lload 7, 2) := by decide +kernel
theorem d_CP_plannedShares_51 : decode c_CP_plannedShares 51 = .ok (.aload_n 3, 1) := by decide +kernel
theorem d_CP_plannedShares_52 : decode c_CP_plannedShares 52 = .ok (.iload 6, 2) := by decide +kernel
theorem d_CP_plannedShares_54 : decode c_CP_plannedShares 54 = .ok (.iconst 4, 1) := by decide +kernel
theorem d_CP_plannedShares_55 : decode c_CP_plannedShares 55 = .ok (.imul, 1) := by decide +kernel
theorem d_CP_plannedShares_56 : decode c_CP_plannedShares 56 = .ok (.iload_n 2, 1) := by decide +kernel
theorem d_CP_plannedShares_57 : decode c_CP_plannedShares 57 = .ok (.iadd, 1) := by decide +kernel
theorem d_CP_plannedShares_58 : decode c_CP_plannedShares 58 = .ok (.iaload, 1) := by decide +kernel
theorem d_CP_plannedShares_59 : decode c_CP_plannedShares 59 = .ok (.i2l, 1) := by decide +kernel
theorem d_CP_plannedShares_60 : decode c_CP_plannedShares 60 = .ok (.lmul, 1) := by decide +kernel
theorem d_CP_plannedShares_61 : decode c_CP_plannedShares 61 = .ok (.ladd, 1) := by decide +kernel
theorem d_CP_plannedShares_62 : decode c_CP_plannedShares 62 = .ok (.lstore 4, 2) := by decide +kernel
theorem d_CP_plannedShares_64 : decode c_CP_plannedShares 64 = .ok (.iinc 6 (1), 3) := by decide +kernel
theorem d_CP_plannedShares_67 : decode c_CP_plannedShares 67 = .ok (.goto (-61), 3) := by decide +kernel
theorem d_CP_plannedShares_70 : decode c_CP_plannedShares 70 = .ok (.lload 4, 2) := by decide +kernel
theorem d_CP_plannedShares_72 : decode c_CP_plannedShares 72 = .ok (.lreturn, 1) := by decide +kernel
theorem d_CP_commonDivisor_0 : decode c_CP_commonDivisor 0 = .ok (.lload_n 0, 1) := by decide +kernel
theorem d_CP_commonDivisor_1 : decode c_CP_commonDivisor 1 = .ok (.lstore 4, 2) := by decide +kernel
theorem d_CP_commonDivisor_3 : decode c_CP_commonDivisor 3 = .ok (.lload_n 2, 1) := by decide +kernel
theorem d_CP_commonDivisor_4 : decode c_CP_commonDivisor 4 = .ok (.lstore 6, 2) := by decide +kernel
theorem d_CP_commonDivisor_6 : decode c_CP_commonDivisor 6 = .ok (.iconst 0, 1) := by decide +kernel
theorem d_CP_commonDivisor_7 : decode c_CP_commonDivisor 7 = .ok (.istore 8, 2) := by decide +kernel
theorem d_CP_commonDivisor_9 : decode c_CP_commonDivisor 9 = .ok (.iload 8, 2) := by decide +kernel
theorem d_CP_commonDivisor_11 : decode c_CP_commonDivisor 11 = .ok (.bipush (100), 2) := by decide +kernel
theorem d_CP_commonDivisor_13 : decode c_CP_commonDivisor 13 = .ok (.if_icmp .ge (31), 3) := by decide +kernel
theorem d_CP_commonDivisor_16 : decode c_CP_commonDivisor 16 = .ok (.lload 6, 2) := by decide +kernel
theorem d_CP_commonDivisor_18 : decode c_CP_commonDivisor 18 = .ok (.lconst 0, 1) := by decide +kernel
theorem d_CP_commonDivisor_19 : decode c_CP_commonDivisor 19 = .ok (.lcmp, 1) := by decide +kernel
theorem d_CP_commonDivisor_20 : decode c_CP_commonDivisor 20 = .ok (.ifCond .eq (24), 3) := by decide +kernel
theorem d_CP_commonDivisor_23 : decode c_CP_commonDivisor 23 = .ok (.lload 4, 2) := by decide +kernel
theorem d_CP_commonDivisor_25 : decode c_CP_commonDivisor 25 = .ok (.lload 6, 2) := by decide +kernel
theorem d_CP_commonDivisor_27 : decode c_CP_commonDivisor 27 = .ok (.lrem, 1) := by decide +kernel
theorem d_CP_commonDivisor_28 : decode c_CP_commonDivisor 28 = .ok (.lstore 9, 2) := by decide +kernel
theorem d_CP_commonDivisor_30 : decode c_CP_commonDivisor 30 = .ok (.lload 6, 2) := by decide +kernel
theorem d_CP_commonDivisor_32 : decode c_CP_commonDivisor 32 = .ok (.lstore 4, 2) := by decide +kernel
theorem d_CP_commonDivisor_34 : decode c_CP_commonDivisor 34 = .ok (.lload 9, 2) := by decide +kernel
theorem d_CP_commonDivisor_36 : decode c_CP_commonDivisor 36 = .ok (.lstore 6, 2) := by decide +kernel
theorem d_CP_commonDivisor_38 : decode c_CP_commonDivisor 38 = .ok (.iinc 8 (1), 3) := by decide +kernel
theorem d_CP_commonDivisor_41 : decode c_CP_commonDivisor 41 = .ok (.goto (-32), 3) := by decide +kernel
theorem d_CP_commonDivisor_44 : decode c_CP_commonDivisor 44 = .ok (.lload 4, 2) := by decide +kernel
theorem d_CP_commonDivisor_46 : decode c_CP_commonDivisor 46 = .ok (.lconst 1, 1) := by decide +kernel
theorem d_CP_commonDivisor_47 : decode c_CP_commonDivisor 47 = .ok (.invokestatic 163, 3) := by decide +kernel
theorem d_CP_commonDivisor_50 : decode c_CP_commonDivisor 50 = .ok (.lreturn, 1) := by decide +kernel
theorem d_CP_requireIndex_0 : decode c_CP_requireIndex 0 = .ok (.iload_n 0, 1) := by decide +kernel
theorem d_CP_requireIndex_1 : decode c_CP_requireIndex 1 = .ok (.ifCond .lt (8), 3) := by decide +kernel
theorem d_CP_requireIndex_4 : decode c_CP_requireIndex 4 = .ok (.iload_n 0, 1) := by decide +kernel
theorem d_CP_requireIndex_5 : decode c_CP_requireIndex 5 = .ok (.iload_n 1, 1) := by decide +kernel
theorem d_CP_requireIndex_6 : decode c_CP_requireIndex 6 = .ok (.if_icmp .lt (13), 3) := by decide +kernel
theorem d_CP_requireIndex_9 : decode c_CP_requireIndex 9 = .ok (.new 166, 3) := by decide +kernel
theorem d_CP_requireIndex_12 : decode c_CP_requireIndex 12 = .ok (.dup, 1) := by decide +kernel
theorem d_CP_requireIndex_13 : decode c_CP_requireIndex 13 = .ok (.ldc 168, 2) := by decide +kernel
theorem d_CP_requireIndex_15 : decode c_CP_requireIndex 15 = .ok (.invokespecial 170, 3) := by decide +kernel
theorem d_CP_requireIndex_18 : decode c_CP_requireIndex 18 = .ok (.athrow, 1) := by decide +kernel
theorem d_CP_requireIndex_19 : decode c_CP_requireIndex 19 = .ok (.return_, 1) := by decide +kernel
theorem d_CP_requireTurn_0 : decode c_CP_requireTurn 0 = .ok (.iload_n 0, 1) := by decide +kernel
theorem d_CP_requireTurn_1 : decode c_CP_requireTurn 1 = .ok (.ifCond .ne (13), 3) := by decide +kernel
theorem d_CP_requireTurn_4 : decode c_CP_requireTurn 4 = .ok (.new 173, 3) := by decide +kernel
theorem d_CP_requireTurn_7 : decode c_CP_requireTurn 7 = .ok (.dup, 1) := by decide +kernel
theorem d_CP_requireTurn_8 : decode c_CP_requireTurn 8 = .ok (.ldc 175, 2) := by decide +kernel
theorem d_CP_requireTurn_10 : decode c_CP_requireTurn 10 = .ok (.invokespecial 177, 3) := by decide +kernel
theorem d_CP_requireTurn_13 : decode c_CP_requireTurn 13 = .ok (.athrow, 1) := by decide +kernel
theorem d_CP_requireTurn_14 : decode c_CP_requireTurn 14 = .ok (.return_, 1) := by decide +kernel
theorem d_CP_requireArgument_0 : decode c_CP_requireArgument 0 = .ok (.iload_n 0, 1) := by decide +kernel
theorem d_CP_requireArgument_1 : decode c_CP_requireArgument 1 = .ok (.ifCond .ne (13), 3) := by decide +kernel
theorem d_CP_requireArgument_4 : decode c_CP_requireArgument 4 = .ok (.new 178, 3) := by decide +kernel
theorem d_CP_requireArgument_7 : decode c_CP_requireArgument 7 = .ok (.dup, 1) := by decide +kernel
theorem d_CP_requireArgument_8 : decode c_CP_requireArgument 8 = .ok (.ldc 180, 2) := by decide +kernel
theorem d_CP_requireArgument_10 : decode c_CP_requireArgument 10 = .ok (.invokespecial 182, 3) := by decide +kernel
theorem d_CP_requireArgument_13 : decode c_CP_requireArgument 13 = .ok (.athrow, 1) := by decide +kernel
theorem d_CP_requireArgument_14 : decode c_CP_requireArgument 14 = .ok (.return_, 1) := by decide +kernel
theorem d_CP_requireRange_0 : decode c_CP_requireRange 0 = .ok (.iload_n 0, 1) := by decide +kernel
theorem d_CP_requireRange_1 : decode c_CP_requireRange 1 = .ok (.iload_n 1, 1) := by decide +kernel
theorem d_CP_requireRange_2 : decode c_CP_requireRange 2 = .ok (.if_icmp .lt (12), 3) := by decide +kernel
theorem d_CP_requireRange_5 : decode c_CP_requireRange 5 = .ok (.iload_n 0, 1) := by decide +kernel
theorem d_CP_requireRange_6 : decode c_CP_requireRange 6 = .ok (.iload_n 2, 1) := by decide +kernel
theorem d_CP_requireRange_7 : decode c_CP_requireRange 7 = .ok (.if_icmp .gt (7), 3) := by decide +kernel
theorem d_CP_requireRange_10 : decode c_CP_requireRange 10 = .ok (.iconst 1, 1) := by decide +kernel
theorem d_CP_requireRange_11 : decode c_CP_requireRange 11 = .ok (.goto (4), 3) := by decide +kernel
theorem d_CP_requireRange_14 : decode c_CP_requireRange 14 = .ok (.iconst 0, 1) := by decide +kernel
theorem d_CP_requireRange_15 : decode c_CP_requireRange 15 = .ok (.invokestatic 72, 3) := by decide +kernel
theorem d_CP_requireRange_18 : decode c_CP_requireRange 18 = .ok (.return_, 1) := by decide +kernel
theorem d_CP_requireSpan_0 : decode c_CP_requireSpan 0 = .ok (.iload_n 0, 1) := by decide +kernel
theorem d_CP_requireSpan_1 : decode c_CP_requireSpan 1 = .ok (.iload_n 2, 1) := by decide +kernel
theorem d_CP_requireSpan_2 : decode c_CP_requireSpan 2 = .ok (.iload_n 3, 1) := by decide +kernel
theorem d_CP_requireSpan_3 : decode c_CP_requireSpan 3 = .ok (.invokestatic 45, 3) := by decide +kernel
theorem d_CP_requireSpan_6 : decode c_CP_requireSpan 6 = .ok (.iload_n 1, 1) := by decide +kernel
theorem d_CP_requireSpan_7 : decode c_CP_requireSpan 7 = .ok (.iload_n 0, 1) := by decide +kernel
theorem d_CP_requireSpan_8 : decode c_CP_requireSpan 8 = .ok (.iload_n 3, 1) := by decide +kernel
theorem d_CP_requireSpan_9 : decode c_CP_requireSpan 9 = .ok (.invokestatic 45, 3) := by decide +kernel
theorem d_CP_requireSpan_12 : decode c_CP_requireSpan 12 = .ok (.return_, 1) := by decide +kernel
theorem d_CP_requireMeaning_0 : decode c_CP_requireMeaning 0 = .ok (.iload_n 0, 1) := by decide +kernel
theorem d_CP_requireMeaning_1 : decode c_CP_requireMeaning 1 = .ok (.ifCond .ne (13), 3) := by decide +kernel
theorem d_CP_requireMeaning_4 : decode c_CP_requireMeaning 4 = .ok (.new 183, 3) := by decide +kernel
theorem d_CP_requireMeaning_7 : decode c_CP_requireMeaning 7 = .ok (.dup, 1) := by decide +kernel
theorem d_CP_requireMeaning_8 : decode c_CP_requireMeaning 8 = .ok (.ldc 185, 2) := by decide +kernel
theorem d_CP_requireMeaning_10 : decode c_CP_requireMeaning 10 = .ok (.invokespecial 187, 3) := by decide +kernel
theorem d_CP_requireMeaning_13 : decode c_CP_requireMeaning 13 = .ok (.athrow, 1) := by decide +kernel
theorem d_CP_requireMeaning_14 : decode c_CP_requireMeaning 14 = .ok (.return_, 1) := by decide +kernel
end
section
theorem d_L_good_0 : decode c_L_good 0 = .ok (.aload 4, 2) := by decide +kernel
theorem d_L_good_2 : decode c_L_good 2 = .ok (.iconst 0, 1) := by decide +kernel
theorem d_L_good_3 : decode c_L_good 3 = .ok (.aload_n 0, 1) := by decide +kernel
theorem d_L_good_4 : decode c_L_good 4 = .ok (.iload_n 1, 1) := by decide +kernel
theorem d_L_good_5 : decode c_L_good 5 = .ok (.iload_n 2, 1) := by decide +kernel
theorem d_L_good_6 : decode c_L_good 6 = .ok (.iload_n 3, 1) := by decide +kernel
theorem d_L_good_7 : decode c_L_good 7 = .ok (.invokevirtual 7, 3) := by decide +kernel
theorem d_L_good_10 : decode c_L_good 10 = .ok (.i2l, 1) := by decide +kernel
theorem d_L_good_11 : decode c_L_good 11 = .ok (.lastore, 1) := by decide +kernel
theorem d_L_good_12 : decode c_L_good 12 = .ok (.goto (11), 3) := by decide +kernel
theorem d_L_good_15 : decode c_L_good 15 = .ok (.astore 5, 2) := by decide +kernel
theorem d_L_good_17 : decode c_L_good 17 = .ok (.iconst 1, 1) := by decide +kernel
theorem d_L_good_18 : decode c_L_good 18 = .ok (.ireturn, 1) := by decide +kernel
theorem d_L_good_19 : decode c_L_good 19 = .ok (.astore 5, 2) := by decide +kernel
theorem d_L_good_21 : decode c_L_good 21 = .ok (.iconst 2, 1) := by decide +kernel
theorem d_L_good_22 : decode c_L_good 22 = .ok (.ireturn, 1) := by decide +kernel
theorem d_L_good_23 : decode c_L_good 23 = .ok (.iconst 0, 1) := by decide +kernel
theorem d_L_good_24 : decode c_L_good 24 = .ok (.ireturn, 1) := by decide +kernel
theorem d_L_element_0 : decode c_L_element 0 = .ok (.aload_n 0, 1) := by decide +kernel
theorem d_L_element_1 : decode c_L_element 1 = .ok (.iload_n 1, 1) := by decide +kernel
theorem d_L_element_2 : decode c_L_element 2 = .ok (.iload_n 2, 1) := by decide +kernel
theorem d_L_element_3 : decode c_L_element 3 = .ok (.iload_n 3, 1) := by decide +kernel
theorem d_L_element_4 : decode c_L_element 4 = .ok (.iload 4, 2) := by decide +kernel
theorem d_L_element_6 : decode c_L_element 6 = .ok (.invokevirtual 17, 3) := by decide +kernel
theorem d_L_element_9 : decode c_L_element 9 = .ok (.goto (11), 3) := by decide +kernel
theorem d_L_element_12 : decode c_L_element 12 = .ok (.astore 5, 2) := by decide +kernel
theorem d_L_element_14 : decode c_L_element 14 = .ok (.iconst 1, 1) := by decide +kernel
theorem d_L_element_15 : decode c_L_element 15 = .ok (.ireturn, 1) := by decide +kernel
theorem d_L_element_16 : decode c_L_element 16 = .ok (.astore 5, 2) := by decide +kernel
theorem d_L_element_18 : decode c_L_element 18 = .ok (.iconst 2, 1) := by decide +kernel
theorem d_L_element_19 : decode c_L_element 19 = .ok (.ireturn, 1) := by decide +kernel
theorem d_L_element_20 : decode c_L_element 20 = .ok (.iconst 0, 1) := by decide +kernel
theorem d_L_element_21 : decode c_L_element 21 = .ok (.ireturn, 1) := by decide +kernel
theorem d_L_limit_0 : decode c_L_limit 0 = .ok (.aload_n 0, 1) := by decide +kernel
theorem d_L_limit_1 : decode c_L_limit 1 = .ok (.iload_n 1, 1) := by decide +kernel
theorem d_L_limit_2 : decode c_L_limit 2 = .ok (.iload_n 2, 1) := by decide +kernel
theorem d_L_limit_3 : decode c_L_limit 3 = .ok (.invokevirtual 23, 3) := by decide +kernel
theorem d_L_limit_6 : decode c_L_limit 6 = .ok (.goto (9), 3) := by decide +kernel
theorem d_L_limit_9 : decode c_L_limit 9 = .ok (.astore_n 3, 1) := by decide +kernel
theorem d_L_limit_10 : decode c_L_limit 10 = .ok (.iconst 1, 1) := by decide +kernel
theorem d_L_limit_11 : decode c_L_limit 11 = .ok (.ireturn, 1) := by decide +kernel
theorem d_L_limit_12 : decode c_L_limit 12 = .ok (.astore_n 3, 1) := by decide +kernel
theorem d_L_limit_13 : decode c_L_limit 13 = .ok (.iconst 2, 1) := by decide +kernel
theorem d_L_limit_14 : decode c_L_limit 14 = .ok (.ireturn, 1) := by decide +kernel
theorem d_L_limit_15 : decode c_L_limit 15 = .ok (.iconst 0, 1) := by decide +kernel
theorem d_L_limit_16 : decode c_L_limit 16 = .ok (.ireturn, 1) := by decide +kernel
theorem d_L_arrive_0 : decode c_L_arrive 0 = .ok (.aload_n 3, 1) := by decide +kernel
theorem d_L_arrive_1 : decode c_L_arrive 1 = .ok (.iconst 0, 1) := by decide +kernel
theorem d_L_arrive_2 : decode c_L_arrive 2 = .ok (.aload_n 0, 1) := by decide +kernel
theorem d_L_arrive_3 : decode c_L_arrive 3 = .ok (.iload_n 1, 1) := by decide +kernel
theorem d_L_arrive_4 : decode c_L_arrive 4 = .ok (.iload_n 2, 1) := by decide +kernel
theorem d_L_arrive_5 : decode c_L_arrive 5 = .ok (.invokevirtual 27, 3) := by decide +kernel
theorem d_L_arrive_8 : decode c_L_arrive 8 = .ok (.i2l, 1) := by decide +kernel
theorem d_L_arrive_9 : decode c_L_arrive 9 = .ok (.lastore, 1) := by decide +kernel
theorem d_L_arrive_10 : decode c_L_arrive 10 = .ok (.goto (15), 3) := by decide +kernel
theorem d_L_arrive_13 : decode c_L_arrive 13 = .ok (.astore 4, 2) := by decide +kernel
theorem d_L_arrive_15 : decode c_L_arrive 15 = .ok (.iconst 1, 1) := by decide +kernel
theorem d_L_arrive_16 : decode c_L_arrive 16 = .ok (.ireturn, 1) := by decide +kernel
theorem d_L_arrive_17 : decode c_L_arrive 17 = .ok (.astore 4, 2) := by decide +kernel
theorem d_L_arrive_19 : decode c_L_arrive 19 = .ok (.iconst 2, 1) := by decide +kernel
theorem d_L_arrive_20 : decode c_L_arrive 20 = .ok (.ireturn, 1) := by decide +kernel
theorem d_L_arrive_21 : decode c_L_arrive 21 = .ok (.astore 4, 2) := by decide +kernel
theorem d_L_arrive_23 : decode c_L_arrive 23 = .ok (.iconst 3, 1) := by decide +kernel
theorem d_L_arrive_24 : decode c_L_arrive 24 = .ok (.ireturn, 1) := by decide +kernel
theorem d_L_arrive_25 : decode c_L_arrive 25 = .ok (.iconst 0, 1) := by decide +kernel
theorem d_L_arrive_26 : decode c_L_arrive 26 = .ok (.ireturn, 1) := by decide +kernel
theorem d_L_heat_0 : decode c_L_heat 0 = .ok (.aload_n 3, 1) := by decide +kernel
theorem d_L_heat_1 : decode c_L_heat 1 = .ok (.iconst 0, 1) := by decide +kernel
theorem d_L_heat_2 : decode c_L_heat 2 = .ok (.aload_n 0, 1) := by decide +kernel
theorem d_L_heat_3 : decode c_L_heat 3 = .ok (.iload_n 1, 1) := by decide +kernel
theorem d_L_heat_4 : decode c_L_heat 4 = .ok (.iload_n 2, 1) := by decide +kernel
theorem d_L_heat_5 : decode c_L_heat 5 = .ok (.invokevirtual 33, 3) := by decide +kernel
theorem d_L_heat_8 : decode c_L_heat 8 = .ok (.i2l, 1) := by decide +kernel
theorem d_L_heat_9 : decode c_L_heat 9 = .ok (.lastore, 1) := by decide +kernel
theorem d_L_heat_10 : decode c_L_heat 10 = .ok (.goto (11), 3) := by decide +kernel
theorem d_L_heat_13 : decode c_L_heat 13 = .ok (.astore 4, 2) := by decide +kernel
theorem d_L_heat_15 : decode c_L_heat 15 = .ok (.iconst 1, 1) := by decide +kernel
theorem d_L_heat_16 : decode c_L_heat 16 = .ok (.ireturn, 1) := by decide +kernel
theorem d_L_heat_17 : decode c_L_heat 17 = .ok (.astore 4, 2) := by decide +kernel
theorem d_L_heat_19 : decode c_L_heat 19 = .ok (.iconst 2, 1) := by decide +kernel
theorem d_L_heat_20 : decode c_L_heat 20 = .ok (.ireturn, 1) := by decide +kernel
theorem d_L_heat_21 : decode c_L_heat 21 = .ok (.iconst 0, 1) := by decide +kernel
theorem d_L_heat_22 : decode c_L_heat 22 = .ok (.ireturn, 1) := by decide +kernel
theorem d_L_span_0 : decode c_L_span 0 = .ok (.aload_n 0, 1) := by decide +kernel
theorem d_L_span_1 : decode c_L_span 1 = .ok (.iload_n 1, 1) := by decide +kernel
theorem d_L_span_2 : decode c_L_span 2 = .ok (.iload_n 2, 1) := by decide +kernel
theorem d_L_span_3 : decode c_L_span 3 = .ok (.iload_n 3, 1) := by decide +kernel
theorem d_L_span_4 : decode c_L_span 4 = .ok (.iload 4, 2) := by decide +kernel
theorem d_L_span_6 : decode c_L_span 6 = .ok (.invokevirtual 36, 3) := by decide +kernel
theorem d_L_span_9 : decode c_L_span 9 = .ok (.goto (11), 3) := by decide +kernel
theorem d_L_span_12 : decode c_L_span 12 = .ok (.astore 5, 2) := by decide +kernel
theorem d_L_span_14 : decode c_L_span 14 = .ok (.iconst 1, 1) := by decide +kernel
theorem d_L_span_15 : decode c_L_span 15 = .ok (.ireturn, 1) := by decide +kernel
theorem d_L_span_16 : decode c_L_span 16 = .ok (.astore 5, 2) := by decide +kernel
theorem d_L_span_18 : decode c_L_span 18 = .ok (.iconst 2, 1) := by decide +kernel
theorem d_L_span_19 : decode c_L_span 19 = .ok (.ireturn, 1) := by decide +kernel
theorem d_L_span_20 : decode c_L_span 20 = .ok (.iconst 0, 1) := by decide +kernel
theorem d_L_span_21 : decode c_L_span 21 = .ok (.ireturn, 1) := by decide +kernel
theorem d_L_most_0 : decode c_L_most 0 = .ok (.aload_n 0, 1) := by decide +kernel
theorem d_L_most_1 : decode c_L_most 1 = .ok (.iload_n 1, 1) := by decide +kernel
theorem d_L_most_2 : decode c_L_most 2 = .ok (.iload_n 2, 1) := by decide +kernel
theorem d_L_most_3 : decode c_L_most 3 = .ok (.invokevirtual 39, 3) := by decide +kernel
theorem d_L_most_6 : decode c_L_most 6 = .ok (.goto (9), 3) := by decide +kernel
theorem d_L_most_9 : decode c_L_most 9 = .ok (.astore_n 3, 1) := by decide +kernel
theorem d_L_most_10 : decode c_L_most 10 = .ok (.iconst 1, 1) := by decide +kernel
theorem d_L_most_11 : decode c_L_most 11 = .ok (.ireturn, 1) := by decide +kernel
theorem d_L_most_12 : decode c_L_most 12 = .ok (.astore_n 3, 1) := by decide +kernel
theorem d_L_most_13 : decode c_L_most 13 = .ok (.iconst 2, 1) := by decide +kernel
theorem d_L_most_14 : decode c_L_most 14 = .ok (.ireturn, 1) := by decide +kernel
theorem d_L_most_15 : decode c_L_most 15 = .ok (.iconst 0, 1) := by decide +kernel
theorem d_L_most_16 : decode c_L_most 16 = .ok (.ireturn, 1) := by decide +kernel
theorem d_L_plan_0 : decode c_L_plan 0 = .ok (.aload_n 3, 1) := by decide +kernel
theorem d_L_plan_1 : decode c_L_plan 1 = .ok (.iconst 0, 1) := by decide +kernel
theorem d_L_plan_2 : decode c_L_plan 2 = .ok (.aload_n 0, 1) := by decide +kernel
theorem d_L_plan_3 : decode c_L_plan 3 = .ok (.iload_n 1, 1) := by decide +kernel
theorem d_L_plan_4 : decode c_L_plan 4 = .ok (.iload_n 2, 1) := by decide +kernel
theorem d_L_plan_5 : decode c_L_plan 5 = .ok (.invokevirtual 42, 3) := by decide +kernel
theorem d_L_plan_8 : decode c_L_plan 8 = .ok (.i2l, 1) := by decide +kernel
theorem d_L_plan_9 : decode c_L_plan 9 = .ok (.lastore, 1) := by decide +kernel
theorem d_L_plan_10 : decode c_L_plan 10 = .ok (.goto (11), 3) := by decide +kernel
theorem d_L_plan_13 : decode c_L_plan 13 = .ok (.astore 4, 2) := by decide +kernel
theorem d_L_plan_15 : decode c_L_plan 15 = .ok (.iconst 1, 1) := by decide +kernel
theorem d_L_plan_16 : decode c_L_plan 16 = .ok (.ireturn, 1) := by decide +kernel
theorem d_L_plan_17 : decode c_L_plan 17 = .ok (.astore 4, 2) := by decide +kernel
theorem d_L_plan_19 : decode c_L_plan 19 = .ok (.iconst 2, 1) := by decide +kernel
theorem d_L_plan_20 : decode c_L_plan 20 = .ok (.ireturn, 1) := by decide +kernel
theorem d_L_plan_21 : decode c_L_plan 21 = .ok (.iconst 0, 1) := by decide +kernel
theorem d_L_plan_22 : decode c_L_plan 22 = .ok (.ireturn, 1) := by decide +kernel
theorem d_L_planned_0 : decode c_L_planned 0 = .ok (.aload_n 2, 1) := by decide +kernel
theorem d_L_planned_1 : decode c_L_planned 1 = .ok (.iconst 0, 1) := by decide +kernel
theorem d_L_planned_2 : decode c_L_planned 2 = .ok (.aload_n 0, 1) := by decide +kernel
theorem d_L_planned_3 : decode c_L_planned 3 = .ok (.iload_n 1, 1) := by decide +kernel
theorem d_L_planned_4 : decode c_L_planned 4 = .ok (.invokevirtual 45, 3) := by decide +kernel
theorem d_L_planned_7 : decode c_L_planned 7 = .ok (.i2l, 1) := by decide +kernel
theorem d_L_planned_8 : decode c_L_planned 8 = .ok (.lastore, 1) := by decide +kernel
theorem d_L_planned_9 : decode c_L_planned 9 = .ok (.goto (9), 3) := by decide +kernel
theorem d_L_planned_12 : decode c_L_planned 12 = .ok (.astore_n 3, 1) := by decide +kernel
theorem d_L_planned_13 : decode c_L_planned 13 = .ok (.iconst 1, 1) := by decide +kernel
theorem d_L_planned_14 : decode c_L_planned 14 = .ok (.ireturn, 1) := by decide +kernel
theorem d_L_planned_15 : decode c_L_planned 15 = .ok (.astore_n 3, 1) := by decide +kernel
theorem d_L_planned_16 : decode c_L_planned 16 = .ok (.iconst 2, 1) := by decide +kernel
theorem d_L_planned_17 : decode c_L_planned 17 = .ok (.ireturn, 1) := by decide +kernel
theorem d_L_planned_18 : decode c_L_planned 18 = .ok (.iconst 0, 1) := by decide +kernel
theorem d_L_planned_19 : decode c_L_planned 19 = .ok (.ireturn, 1) := by decide +kernel
theorem d_L_amount_0 : decode c_L_amount 0 = .ok (.aload_n 3, 1) := by decide +kernel
theorem d_L_amount_1 : decode c_L_amount 1 = .ok (.iconst 0, 1) := by decide +kernel
theorem d_L_amount_2 : decode c_L_amount 2 = .ok (.aload_n 0, 1) := by decide +kernel
theorem d_L_amount_3 : decode c_L_amount 3 = .ok (.iload_n 1, 1) := by decide +kernel
theorem d_L_amount_4 : decode c_L_amount 4 = .ok (.iload_n 2, 1) := by decide +kernel
theorem d_L_amount_5 : decode c_L_amount 5 = .ok (.invokevirtual 49, 3) := by decide +kernel
theorem d_L_amount_8 : decode c_L_amount 8 = .ok (.i2l, 1) := by decide +kernel
theorem d_L_amount_9 : decode c_L_amount 9 = .ok (.lastore, 1) := by decide +kernel
theorem d_L_amount_10 : decode c_L_amount 10 = .ok (.goto (11), 3) := by decide +kernel
theorem d_L_amount_13 : decode c_L_amount 13 = .ok (.astore 4, 2) := by decide +kernel
theorem d_L_amount_15 : decode c_L_amount 15 = .ok (.iconst 1, 1) := by decide +kernel
theorem d_L_amount_16 : decode c_L_amount 16 = .ok (.ireturn, 1) := by decide +kernel
theorem d_L_amount_17 : decode c_L_amount 17 = .ok (.astore 4, 2) := by decide +kernel
theorem d_L_amount_19 : decode c_L_amount 19 = .ok (.iconst 2, 1) := by decide +kernel
theorem d_L_amount_20 : decode c_L_amount 20 = .ok (.ireturn, 1) := by decide +kernel
theorem d_L_amount_21 : decode c_L_amount 21 = .ok (.iconst 0, 1) := by decide +kernel
theorem d_L_amount_22 : decode c_L_amount 22 = .ok (.ireturn, 1) := by decide +kernel
theorem d_L_worst_0 : decode c_L_worst 0 = .ok (.aload 5, 2) := by decide +kernel
theorem d_L_worst_2 : decode c_L_worst 2 = .ok (.iconst 0, 1) := by decide +kernel
theorem d_L_worst_3 : decode c_L_worst 3 = .ok (.aload_n 0, 1) := by decide +kernel
theorem d_L_worst_4 : decode c_L_worst 4 = .ok (.iload_n 1, 1) := by decide +kernel
theorem d_L_worst_5 : decode c_L_worst 5 = .ok (.iload_n 2, 1) := by decide +kernel
theorem d_L_worst_6 : decode c_L_worst 6 = .ok (.iload_n 3, 1) := by decide +kernel
theorem d_L_worst_7 : decode c_L_worst 7 = .ok (.iload 4, 2) := by decide +kernel
theorem d_L_worst_9 : decode c_L_worst 9 = .ok (.invokevirtual 52, 3) := by decide +kernel
theorem d_L_worst_12 : decode c_L_worst 12 = .ok (.lastore, 1) := by decide +kernel
theorem d_L_worst_13 : decode c_L_worst 13 = .ok (.goto (15), 3) := by decide +kernel
theorem d_L_worst_16 : decode c_L_worst 16 = .ok (.astore 6, 2) := by decide +kernel
theorem d_L_worst_18 : decode c_L_worst 18 = .ok (.iconst 1, 1) := by decide +kernel
theorem d_L_worst_19 : decode c_L_worst 19 = .ok (.ireturn, 1) := by decide +kernel
theorem d_L_worst_20 : decode c_L_worst 20 = .ok (.astore 6, 2) := by decide +kernel
theorem d_L_worst_22 : decode c_L_worst 22 = .ok (.iconst 2, 1) := by decide +kernel
theorem d_L_worst_23 : decode c_L_worst 23 = .ok (.ireturn, 1) := by decide +kernel
theorem d_L_worst_24 : decode c_L_worst 24 = .ok (.astore 6, 2) := by decide +kernel
theorem d_L_worst_26 : decode c_L_worst 26 = .ok (.iconst 3, 1) := by decide +kernel
theorem d_L_worst_27 : decode c_L_worst 27 = .ok (.ireturn, 1) := by decide +kernel
theorem d_L_worst_28 : decode c_L_worst 28 = .ok (.iconst 0, 1) := by decide +kernel
theorem d_L_worst_29 : decode c_L_worst 29 = .ok (.ireturn, 1) := by decide +kernel
theorem d_L_bound_0 : decode c_L_bound 0 = .ok (.aload_n 2, 1) := by decide +kernel
theorem d_L_bound_1 : decode c_L_bound 1 = .ok (.iconst 0, 1) := by decide +kernel
theorem d_L_bound_2 : decode c_L_bound 2 = .ok (.aload_n 0, 1) := by decide +kernel
theorem d_L_bound_3 : decode c_L_bound 3 = .ok (.iload_n 1, 1) := by decide +kernel
theorem d_L_bound_4 : decode c_L_bound 4 = .ok (.invokevirtual 56, 3) := by decide +kernel
theorem d_L_bound_7 : decode c_L_bound 7 = .ok (.lastore, 1) := by decide +kernel
theorem d_L_bound_8 : decode c_L_bound 8 = .ok (.goto (9), 3) := by decide +kernel
theorem d_L_bound_11 : decode c_L_bound 11 = .ok (.astore_n 3, 1) := by decide +kernel
theorem d_L_bound_12 : decode c_L_bound 12 = .ok (.iconst 1, 1) := by decide +kernel
theorem d_L_bound_13 : decode c_L_bound 13 = .ok (.ireturn, 1) := by decide +kernel
theorem d_L_bound_14 : decode c_L_bound 14 = .ok (.astore_n 3, 1) := by decide +kernel
theorem d_L_bound_15 : decode c_L_bound 15 = .ok (.iconst 2, 1) := by decide +kernel
theorem d_L_bound_16 : decode c_L_bound 16 = .ok (.ireturn, 1) := by decide +kernel
theorem d_L_bound_17 : decode c_L_bound 17 = .ok (.iconst 0, 1) := by decide +kernel
theorem d_L_bound_18 : decode c_L_bound 18 = .ok (.ireturn, 1) := by decide +kernel
theorem d_L_clash_0 : decode c_L_clash 0 = .ok (.aload_n 2, 1) := by decide +kernel
theorem d_L_clash_1 : decode c_L_clash 1 = .ok (.iconst 0, 1) := by decide +kernel
theorem d_L_clash_2 : decode c_L_clash 2 = .ok (.aload_n 0, 1) := by decide +kernel
theorem d_L_clash_3 : decode c_L_clash 3 = .ok (.iload_n 1, 1) := by decide +kernel
theorem d_L_clash_4 : decode c_L_clash 4 = .ok (.invokevirtual 60, 3) := by decide +kernel
theorem d_L_clash_7 : decode c_L_clash 7 = .ok (.i2l, 1) := by decide +kernel
theorem d_L_clash_8 : decode c_L_clash 8 = .ok (.lastore, 1) := by decide +kernel
theorem d_L_clash_9 : decode c_L_clash 9 = .ok (.goto (6), 3) := by decide +kernel
theorem d_L_clash_12 : decode c_L_clash 12 = .ok (.astore_n 3, 1) := by decide +kernel
theorem d_L_clash_13 : decode c_L_clash 13 = .ok (.iconst 1, 1) := by decide +kernel
theorem d_L_clash_14 : decode c_L_clash 14 = .ok (.ireturn, 1) := by decide +kernel
theorem d_L_clash_15 : decode c_L_clash 15 = .ok (.iconst 0, 1) := by decide +kernel
theorem d_L_clash_16 : decode c_L_clash 16 = .ok (.ireturn, 1) := by decide +kernel
theorem d_L_take_0 : decode c_L_take 0 = .ok (.aload_n 2, 1) := by decide +kernel
theorem d_L_take_1 : decode c_L_take 1 = .ok (.iconst 0, 1) := by decide +kernel
theorem d_L_take_2 : decode c_L_take 2 = .ok (.aload_n 0, 1) := by decide +kernel
theorem d_L_take_3 : decode c_L_take 3 = .ok (.iload_n 1, 1) := by decide +kernel
theorem d_L_take_4 : decode c_L_take 4 = .ok (.invokevirtual 63, 3) := by decide +kernel
theorem d_L_take_7 : decode c_L_take 7 = .ok (.i2l, 1) := by decide +kernel
theorem d_L_take_8 : decode c_L_take 8 = .ok (.lastore, 1) := by decide +kernel
theorem d_L_take_9 : decode c_L_take 9 = .ok (.goto (12), 3) := by decide +kernel
theorem d_L_take_12 : decode c_L_take 12 = .ok (.astore_n 3, 1) := by decide +kernel
theorem d_L_take_13 : decode c_L_take 13 = .ok (.iconst 1, 1) := by decide +kernel
theorem d_L_take_14 : decode c_L_take 14 = .ok (.ireturn, 1) := by decide +kernel
theorem d_L_take_15 : decode c_L_take 15 = .ok (.astore_n 3, 1) := by decide +kernel
theorem d_L_take_16 : decode c_L_take 16 = .ok (.iconst 2, 1) := by decide +kernel
theorem d_L_take_17 : decode c_L_take 17 = .ok (.ireturn, 1) := by decide +kernel
theorem d_L_take_18 : decode c_L_take 18 = .ok (.astore_n 3, 1) := by decide +kernel
theorem d_L_take_19 : decode c_L_take 19 = .ok (.iconst 3, 1) := by decide +kernel
theorem d_L_take_20 : decode c_L_take 20 = .ok (.ireturn, 1) := by decide +kernel
theorem d_L_take_21 : decode c_L_take 21 = .ok (.iconst 0, 1) := by decide +kernel
theorem d_L_take_22 : decode c_L_take 22 = .ok (.ireturn, 1) := by decide +kernel
theorem d_L_stock_0 : decode c_L_stock 0 = .ok (.aload_n 2, 1) := by decide +kernel
theorem d_L_stock_1 : decode c_L_stock 1 = .ok (.iconst 0, 1) := by decide +kernel
theorem d_L_stock_2 : decode c_L_stock 2 = .ok (.aload_n 0, 1) := by decide +kernel
theorem d_L_stock_3 : decode c_L_stock 3 = .ok (.iload_n 1, 1) := by decide +kernel
theorem d_L_stock_4 : decode c_L_stock 4 = .ok (.invokevirtual 66, 3) := by decide +kernel
theorem d_L_stock_7 : decode c_L_stock 7 = .ok (.i2l, 1) := by decide +kernel
theorem d_L_stock_8 : decode c_L_stock 8 = .ok (.lastore, 1) := by decide +kernel
theorem d_L_stock_9 : decode c_L_stock 9 = .ok (.goto (6), 3) := by decide +kernel
theorem d_L_stock_12 : decode c_L_stock 12 = .ok (.astore_n 3, 1) := by decide +kernel
theorem d_L_stock_13 : decode c_L_stock 13 = .ok (.iconst 1, 1) := by decide +kernel
theorem d_L_stock_14 : decode c_L_stock 14 = .ok (.ireturn, 1) := by decide +kernel
theorem d_L_stock_15 : decode c_L_stock 15 = .ok (.iconst 0, 1) := by decide +kernel
theorem d_L_stock_16 : decode c_L_stock 16 = .ok (.ireturn, 1) := by decide +kernel
theorem d_L_law_0 : decode code 0 = .ok (.new 8, 3) := by decide +kernel
theorem d_L_law_3 : decode code 3 = .ok (.dup, 1) := by decide +kernel
theorem d_L_law_4 : decode code 4 = .ok (.invokespecial 69, 3) := by decide +kernel
theorem d_L_law_7 : decode code 7 = .ok (.astore_n 1, 1) := by decide +kernel
theorem d_L_law_8 : decode code 8 = .ok (.new 70, 3) := by decide +kernel
theorem d_L_law_11 : decode code 11 = .ok (.dup, 1) := by decide +kernel
theorem d_L_law_12 : decode code 12 = .ok (.invokespecial 72, 3) := by decide +kernel
theorem d_L_law_15 : decode code 15 = .ok (.astore_n 2, 1) := by decide +kernel
theorem d_L_law_16 : decode code 16 = .ok (.iconst 1, 1) := by decide +kernel
theorem d_L_law_17 : decode code 17 = .ok (.newarray .long, 2) := by decide +kernel
theorem d_L_law_19 : decode code 19 = .ok (.astore_n 3, 1) := by decide +kernel
theorem d_L_law_20 : decode code 20 = .ok (.iconst 0, 1) := by decide +kernel
theorem d_L_law_21 : decode code 21 = .ok (.istore 4, 2) := by decide +kernel
theorem d_L_law_23 : decode code 23 = .ok (.iload 4, 2) := by decide +kernel
theorem d_L_law_25 : decode code 25 = .ok (.aload_n 0, 1) := by decide +kernel
theorem d_L_law_26 : decode code 26 = .ok (.arraylength, 1) := by decide +kernel
theorem d_L_law_27 : decode code 27 = .ok (.iconst 5, 1) := by decide +kernel
theorem d_L_law_28 : decode code 28 = .ok (.isub, 1) := by decide +kernel
theorem d_L_law_29 : decode code 29 = .ok (.if_icmp .gt (1051), 3) := by decide +kernel
theorem d_L_law_32 : decode code 32 = .ok (.aload_n 0, 1) := by decide +kernel
theorem d_L_law_33 : decode code 33 = .ok (.iload 4, 2) := by decide +kernel
theorem d_L_law_35 : decode code 35 = .ok (.iaload, 1) := by decide +kernel
theorem d_L_law_36 : decode code 36 = .ok (.bipush (15), 2) := by decide +kernel
theorem d_L_law_38 : decode code 38 = .ok (.iand, 1) := by decide +kernel
theorem d_L_law_39 : decode code 39 = .ok (.tableswitch 1035 0 14 #[73, 153, 225, 273, 341, 409, 481, 529, 597, 653, 721, 812, 867, 923, 979], 73) := by decide +kernel
theorem d_L_law_112 : decode code 112 = .ok (.aload_n 1, 1) := by decide +kernel
theorem d_L_law_113 : decode code 113 = .ok (.aload_n 0, 1) := by decide +kernel
theorem d_L_law_114 : decode code 114 = .ok (.iload 4, 2) := by decide +kernel
theorem d_L_law_116 : decode code 116 = .ok (.iconst 1, 1) := by decide +kernel
theorem d_L_law_117 : decode code 117 = .ok (.iadd, 1) := by decide +kernel
theorem d_L_law_118 : decode code 118 = .ok (.iaload, 1) := by decide +kernel
theorem d_L_law_119 : decode code 119 = .ok (.aload_n 0, 1) := by decide +kernel
theorem d_L_law_120 : decode code 120 = .ok (.iload 4, 2) := by decide +kernel
theorem d_L_law_122 : decode code 122 = .ok (.iconst 2, 1) := by decide +kernel
theorem d_L_law_123 : decode code 123 = .ok (.iadd, 1) := by decide +kernel
theorem d_L_law_124 : decode code 124 = .ok (.iaload, 1) := by decide +kernel
theorem d_L_law_125 : decode code 125 = .ok (.aload_n 0, 1) := by decide +kernel
theorem d_L_law_126 : decode code 126 = .ok (.iload 4, 2) := by decide +kernel
theorem d_L_law_128 : decode code 128 = .ok (.iconst 3, 1) := by decide +kernel
theorem d_L_law_129 : decode code 129 = .ok (.iadd, 1) := by decide +kernel
theorem d_L_law_130 : decode code 130 = .ok (.iaload, 1) := by decide +kernel
theorem d_L_law_131 : decode code 131 = .ok (.aload_n 3, 1) := by decide +kernel
theorem d_L_law_132 : decode code 132 = .ok (.invokestatic 73, 3) := by decide +kernel
theorem d_L_law_135 : decode code 135 = .ok (.istore 5, 2) := by decide +kernel
theorem d_L_law_137 : decode code 137 = .ok (.aload_n 2, 1) := by decide +kernel
theorem d_L_law_138 : decode code 138 = .ok (.aload_n 0, 1) := by decide +kernel
theorem d_L_law_139 : decode code 139 = .ok (.iload 4, 2) := by decide +kernel
theorem d_L_law_141 : decode code 141 = .ok (.iconst 1, 1) := by decide +kernel
theorem d_L_law_142 : decode code 142 = .ok (.iadd, 1) := by decide +kernel
theorem d_L_law_143 : decode code 143 = .ok (.iaload, 1) := by decide +kernel
theorem d_L_law_144 : decode code 144 = .ok (.aload_n 0, 1) := by decide +kernel
theorem d_L_law_145 : decode code 145 = .ok (.iload 4, 2) := by decide +kernel
theorem d_L_law_147 : decode code 147 = .ok (.iconst 2, 1) := by decide +kernel
theorem d_L_law_148 : decode code 148 = .ok (.iadd, 1) := by decide +kernel
theorem d_L_law_149 : decode code 149 = .ok (.iaload, 1) := by decide +kernel
theorem d_L_law_150 : decode code 150 = .ok (.aload_n 0, 1) := by decide +kernel
theorem d_L_law_151 : decode code 151 = .ok (.iload 4, 2) := by decide +kernel
theorem d_L_law_153 : decode code 153 = .ok (.iconst 3, 1) := by decide +kernel
theorem d_L_law_154 : decode code 154 = .ok (.iadd, 1) := by decide +kernel
theorem d_L_law_155 : decode code 155 = .ok (.iaload, 1) := by decide +kernel
theorem d_L_law_156 : decode code 156 = .ok (.invokevirtual 78, 3) := by decide +kernel
theorem d_L_law_159 : decode code 159 = .ok (.istore 6, 2) := by decide +kernel
theorem d_L_law_161 : decode code 161 = .ok (.aload_n 2, 1) := by decide +kernel
theorem d_L_law_162 : decode code 162 = .ok (.invokevirtual 79, 3) := by decide +kernel
theorem d_L_law_165 : decode code 165 = .ok (.iload 5, 2) := by decide +kernel
theorem d_L_law_167 : decode code 167 = .ok (.if_icmp .eq (5), 3) := by decide +kernel
theorem d_L_law_170 : decode code 170 = .ok (.iconst 0, 1) := by decide +kernel
theorem d_L_law_171 : decode code 171 = .ok (.ireturn, 1) := by decide +kernel
theorem d_L_law_172 : decode code 172 = .ok (.iload 5, 2) := by decide +kernel
theorem d_L_law_174 : decode code 174 = .ok (.ifCond .ne (15), 3) := by decide +kernel
theorem d_L_law_177 : decode code 177 = .ok (.aload_n 3, 1) := by decide +kernel
theorem d_L_law_178 : decode code 178 = .ok (.iconst 0, 1) := by decide +kernel
theorem d_L_law_179 : decode code 179 = .ok (.laload, 1) := by decide +kernel
theorem d_L_law_180 : decode code 180 = .ok (.iload 6, 2) := by decide +kernel
theorem d_L_law_182 : decode code 182 = .ok (.i2l, 1) := by decide +kernel
theorem d_L_law_183 : decode code 183 = .ok (.lcmp, 1) := by decide +kernel
theorem d_L_law_184 : decode code 184 = .ok (.ifCond .eq (5), 3) := by decide +kernel
theorem d_L_law_187 : decode code 187 = .ok (.iconst 0, 1) := by decide +kernel
theorem d_L_law_188 : decode code 188 = .ok (.ireturn, 1) := by decide +kernel
theorem d_L_law_189 : decode code 189 = .ok (.goto (885), 3) := by decide +kernel
theorem d_L_law_192 : decode code 192 = .ok (.aload_n 1, 1) := by decide +kernel
theorem d_L_law_193 : decode code 193 = .ok (.aload_n 0, 1) := by decide +kernel
theorem d_L_law_194 : decode code 194 = .ok (.iload 4, 2) := by decide +kernel
theorem d_L_law_196 : decode code 196 = .ok (.iconst 1, 1) := by decide +kernel
theorem d_L_law_197 : decode code 197 = .ok (.iadd, 1) := by decide +kernel
theorem d_L_law_198 : decode code 198 = .ok (.iaload, 1) := by decide +kernel
theorem d_L_law_199 : decode code 199 = .ok (.aload_n 0, 1) := by decide +kernel
theorem d_L_law_200 : decode code 200 = .ok (.iload 4, 2) := by decide +kernel
theorem d_L_law_202 : decode code 202 = .ok (.iconst 2, 1) := by decide +kernel
theorem d_L_law_203 : decode code 203 = .ok (.iadd, 1) := by decide +kernel
theorem d_L_law_204 : decode code 204 = .ok (.iaload, 1) := by decide +kernel
theorem d_L_law_205 : decode code 205 = .ok (.aload_n 0, 1) := by decide +kernel
theorem d_L_law_206 : decode code 206 = .ok (.iload 4, 2) := by decide +kernel
theorem d_L_law_208 : decode code 208 = .ok (.iconst 3, 1) := by decide +kernel
theorem d_L_law_209 : decode code 209 = .ok (.iadd, 1) := by decide +kernel
theorem d_L_law_210 : decode code 210 = .ok (.iaload, 1) := by decide +kernel
theorem d_L_law_211 : decode code 211 = .ok (.aload_n 0, 1) := by decide +kernel
theorem d_L_law_212 : decode code 212 = .ok (.iload 4, 2) := by decide +kernel
theorem d_L_law_214 : decode code 214 = .ok (.iconst 4, 1) := by decide +kernel
theorem d_L_law_215 : decode code 215 = .ok (.iadd, 1) := by decide +kernel
theorem d_L_law_216 : decode code 216 = .ok (.iaload, 1) := by decide +kernel
theorem d_L_law_217 : decode code 217 = .ok (.invokestatic 83, 3) := by decide +kernel
theorem d_L_law_220 : decode code 220 = .ok (.istore 5, 2) := by decide +kernel
theorem d_L_law_222 : decode code 222 = .ok (.aload_n 2, 1) := by decide +kernel
theorem d_L_law_223 : decode code 223 = .ok (.aload_n 0, 1) := by decide +kernel
theorem d_L_law_224 : decode code 224 = .ok (.iload 4, 2) := by decide +kernel
theorem d_L_law_226 : decode code 226 = .ok (.iconst 1, 1) := by decide +kernel
theorem d_L_law_227 : decode code 227 = .ok (.iadd, 1) := by decide +kernel
theorem d_L_law_228 : decode code 228 = .ok (.iaload, 1) := by decide +kernel
theorem d_L_law_229 : decode code 229 = .ok (.aload_n 0, 1) := by decide +kernel
theorem d_L_law_230 : decode code 230 = .ok (.iload 4, 2) := by decide +kernel
theorem d_L_law_232 : decode code 232 = .ok (.iconst 2, 1) := by decide +kernel
theorem d_L_law_233 : decode code 233 = .ok (.iadd, 1) := by decide +kernel
theorem d_L_law_234 : decode code 234 = .ok (.iaload, 1) := by decide +kernel
theorem d_L_law_235 : decode code 235 = .ok (.aload_n 0, 1) := by decide +kernel
theorem d_L_law_236 : decode code 236 = .ok (.iload 4, 2) := by decide +kernel
theorem d_L_law_238 : decode code 238 = .ok (.iconst 3, 1) := by decide +kernel
theorem d_L_law_239 : decode code 239 = .ok (.iadd, 1) := by decide +kernel
theorem d_L_law_240 : decode code 240 = .ok (.iaload, 1) := by decide +kernel
theorem d_L_law_241 : decode code 241 = .ok (.aload_n 0, 1) := by decide +kernel
theorem d_L_law_242 : decode code 242 = .ok (.iload 4, 2) := by decide +kernel
theorem d_L_law_244 : decode code 244 = .ok (.iconst 4, 1) := by decide +kernel
theorem d_L_law_245 : decode code 245 = .ok (.iadd, 1) := by decide +kernel
theorem d_L_law_246 : decode code 246 = .ok (.iaload, 1) := by decide +kernel
theorem d_L_law_247 : decode code 247 = .ok (.invokevirtual 86, 3) := by decide +kernel
theorem d_L_law_250 : decode code 250 = .ok (.aload_n 2, 1) := by decide +kernel
theorem d_L_law_251 : decode code 251 = .ok (.invokevirtual 79, 3) := by decide +kernel
theorem d_L_law_254 : decode code 254 = .ok (.iload 5, 2) := by decide +kernel
theorem d_L_law_256 : decode code 256 = .ok (.if_icmp .eq (5), 3) := by decide +kernel
theorem d_L_law_259 : decode code 259 = .ok (.iconst 0, 1) := by decide +kernel
theorem d_L_law_260 : decode code 260 = .ok (.ireturn, 1) := by decide +kernel
theorem d_L_law_261 : decode code 261 = .ok (.goto (813), 3) := by decide +kernel
theorem d_L_law_264 : decode code 264 = .ok (.aload_n 1, 1) := by decide +kernel
theorem d_L_law_265 : decode code 265 = .ok (.aload_n 0, 1) := by decide +kernel
theorem d_L_law_266 : decode code 266 = .ok (.iload 4, 2) := by decide +kernel
theorem d_L_law_268 : decode code 268 = .ok (.iconst 1, 1) := by decide +kernel
theorem d_L_law_269 : decode code 269 = .ok (.iadd, 1) := by decide +kernel
theorem d_L_law_270 : decode code 270 = .ok (.iaload, 1) := by decide +kernel
theorem d_L_law_271 : decode code 271 = .ok (.aload_n 0, 1) := by decide +kernel
theorem d_L_law_272 : decode code 272 = .ok (.iload 4, 2) := by decide +kernel
theorem d_L_law_274 : decode code 274 = .ok (.iconst 2, 1) := by decide +kernel
theorem d_L_law_275 : decode code 275 = .ok (.iadd, 1) := by decide +kernel
theorem d_L_law_276 : decode code 276 = .ok (.iaload, 1) := by decide +kernel
theorem d_L_law_277 : decode code 277 = .ok (.invokestatic 87, 3) := by decide +kernel
theorem d_L_law_280 : decode code 280 = .ok (.istore 5, 2) := by decide +kernel
theorem d_L_law_282 : decode code 282 = .ok (.aload_n 2, 1) := by decide +kernel
theorem d_L_law_283 : decode code 283 = .ok (.aload_n 0, 1) := by decide +kernel
theorem d_L_law_284 : decode code 284 = .ok (.iload 4, 2) := by decide +kernel
theorem d_L_law_286 : decode code 286 = .ok (.iconst 1, 1) := by decide +kernel
theorem d_L_law_287 : decode code 287 = .ok (.iadd, 1) := by decide +kernel
theorem d_L_law_288 : decode code 288 = .ok (.iaload, 1) := by decide +kernel
theorem d_L_law_289 : decode code 289 = .ok (.aload_n 0, 1) := by decide +kernel
theorem d_L_law_290 : decode code 290 = .ok (.iload 4, 2) := by decide +kernel
theorem d_L_law_292 : decode code 292 = .ok (.iconst 2, 1) := by decide +kernel
theorem d_L_law_293 : decode code 293 = .ok (.iadd, 1) := by decide +kernel
theorem d_L_law_294 : decode code 294 = .ok (.iaload, 1) := by decide +kernel
theorem d_L_law_295 : decode code 295 = .ok (.invokevirtual 90, 3) := by decide +kernel
theorem d_L_law_298 : decode code 298 = .ok (.aload_n 2, 1) := by decide +kernel
end
section
theorem d_L_law_299 : decode code 299 = .ok (.invokevirtual 79, 3) := by decide +kernel
theorem d_L_law_302 : decode code 302 = .ok (.iload 5, 2) := by decide +kernel
theorem d_L_law_304 : decode code 304 = .ok (.if_icmp .eq (5), 3) := by decide +kernel
theorem d_L_law_307 : decode code 307 = .ok (.iconst 0, 1) := by decide +kernel
theorem d_L_law_308 : decode code 308 = .ok (.ireturn, 1) := by decide +kernel
theorem d_L_law_309 : decode code 309 = .ok (.goto (765), 3) := by decide +kernel
theorem d_L_law_312 : decode code 312 = .ok (.aload_n 1, 1) := by decide +kernel
theorem d_L_law_313 : decode code 313 = .ok (.aload_n 0, 1) := by decide +kernel
theorem d_L_law_314 : decode code 314 = .ok (.iload 4, 2) := by decide +kernel
theorem d_L_law_316 : decode code 316 = .ok (.iconst 1, 1) := by decide +kernel
theorem d_L_law_317 : decode code 317 = .ok (.iadd, 1) := by decide +kernel
theorem d_L_law_318 : decode code 318 = .ok (.iaload, 1) := by decide +kernel
theorem d_L_law_319 : decode code 319 = .ok (.aload_n 0, 1) := by decide +kernel
theorem d_L_law_320 : decode code 320 = .ok (.iload 4, 2) := by decide +kernel
theorem d_L_law_322 : decode code 322 = .ok (.iconst 2, 1) := by decide +kernel
theorem d_L_law_323 : decode code 323 = .ok (.iadd, 1) := by decide +kernel
theorem d_L_law_324 : decode code 324 = .ok (.iaload, 1) := by decide +kernel
theorem d_L_law_325 : decode code 325 = .ok (.aload_n 3, 1) := by decide +kernel
theorem d_L_law_326 : decode code 326 = .ok (.invokestatic 91, 3) := by decide +kernel
theorem d_L_law_329 : decode code 329 = .ok (.istore 5, 2) := by decide +kernel
theorem d_L_law_331 : decode code 331 = .ok (.aload_n 2, 1) := by decide +kernel
theorem d_L_law_332 : decode code 332 = .ok (.aload_n 0, 1) := by decide +kernel
theorem d_L_law_333 : decode code 333 = .ok (.iload 4, 2) := by decide +kernel
theorem d_L_law_335 : decode code 335 = .ok (.iconst 1, 1) := by decide +kernel
theorem d_L_law_336 : decode code 336 = .ok (.iadd, 1) := by decide +kernel
theorem d_L_law_337 : decode code 337 = .ok (.iaload, 1) := by decide +kernel
theorem d_L_law_338 : decode code 338 = .ok (.aload_n 0, 1) := by decide +kernel
theorem d_L_law_339 : decode code 339 = .ok (.iload 4, 2) := by decide +kernel
theorem d_L_law_341 : decode code 341 = .ok (.iconst 2, 1) := by decide +kernel
theorem d_L_law_342 : decode code 342 = .ok (.iadd, 1) := by decide +kernel
theorem d_L_law_343 : decode code 343 = .ok (.iaload, 1) := by decide +kernel
theorem d_L_law_344 : decode code 344 = .ok (.invokevirtual 94, 3) := by decide +kernel
theorem d_L_law_347 : decode code 347 = .ok (.istore 6, 2) := by decide +kernel
theorem d_L_law_349 : decode code 349 = .ok (.aload_n 2, 1) := by decide +kernel
theorem d_L_law_350 : decode code 350 = .ok (.invokevirtual 79, 3) := by decide +kernel
theorem d_L_law_353 : decode code 353 = .ok (.iload 5, 2) := by decide +kernel
theorem d_L_law_355 : decode code 355 = .ok (.if_icmp .eq (5), 3) := by decide +kernel
theorem d_L_law_358 : decode code 358 = .ok (.iconst 0, 1) := by decide +kernel
theorem d_L_law_359 : decode code 359 = .ok (.ireturn, 1) := by decide +kernel
theorem d_L_law_360 : decode code 360 = .ok (.iload 5, 2) := by decide +kernel
theorem d_L_law_362 : decode code 362 = .ok (.ifCond .ne (15), 3) := by decide +kernel
theorem d_L_law_365 : decode code 365 = .ok (.aload_n 3, 1) := by decide +kernel
theorem d_L_law_366 : decode code 366 = .ok (.iconst 0, 1) := by decide +kernel
theorem d_L_law_367 : decode code 367 = .ok (.laload, 1) := by decide +kernel
theorem d_L_law_368 : decode code 368 = .ok (.iload 6, 2) := by decide +kernel
theorem d_L_law_370 : decode code 370 = .ok (.i2l, 1) := by decide +kernel
theorem d_L_law_371 : decode code 371 = .ok (.lcmp, 1) := by decide +kernel
theorem d_L_law_372 : decode code 372 = .ok (.ifCond .eq (5), 3) := by decide +kernel
theorem d_L_law_375 : decode code 375 = .ok (.iconst 0, 1) := by decide +kernel
theorem d_L_law_376 : decode code 376 = .ok (.ireturn, 1) := by decide +kernel
theorem d_L_law_377 : decode code 377 = .ok (.goto (697), 3) := by decide +kernel
theorem d_L_law_380 : decode code 380 = .ok (.aload_n 1, 1) := by decide +kernel
theorem d_L_law_381 : decode code 381 = .ok (.aload_n 0, 1) := by decide +kernel
theorem d_L_law_382 : decode code 382 = .ok (.iload 4, 2) := by decide +kernel
theorem d_L_law_384 : decode code 384 = .ok (.iconst 1, 1) := by decide +kernel
theorem d_L_law_385 : decode code 385 = .ok (.iadd, 1) := by decide +kernel
theorem d_L_law_386 : decode code 386 = .ok (.iaload, 1) := by decide +kernel
theorem d_L_law_387 : decode code 387 = .ok (.aload_n 0, 1) := by decide +kernel
theorem d_L_law_388 : decode code 388 = .ok (.iload 4, 2) := by decide +kernel
theorem d_L_law_390 : decode code 390 = .ok (.iconst 2, 1) := by decide +kernel
theorem d_L_law_391 : decode code 391 = .ok (.iadd, 1) := by decide +kernel
theorem d_L_law_392 : decode code 392 = .ok (.iaload, 1) := by decide +kernel
theorem d_L_law_393 : decode code 393 = .ok (.aload_n 3, 1) := by decide +kernel
theorem d_L_law_394 : decode code 394 = .ok (.invokestatic 95, 3) := by decide +kernel
theorem d_L_law_397 : decode code 397 = .ok (.istore 5, 2) := by decide +kernel
theorem d_L_law_399 : decode code 399 = .ok (.aload_n 2, 1) := by decide +kernel
theorem d_L_law_400 : decode code 400 = .ok (.aload_n 0, 1) := by decide +kernel
theorem d_L_law_401 : decode code 401 = .ok (.iload 4, 2) := by decide +kernel
theorem d_L_law_403 : decode code 403 = .ok (.iconst 1, 1) := by decide +kernel
theorem d_L_law_404 : decode code 404 = .ok (.iadd, 1) := by decide +kernel
theorem d_L_law_405 : decode code 405 = .ok (.iaload, 1) := by decide +kernel
theorem d_L_law_406 : decode code 406 = .ok (.aload_n 0, 1) := by decide +kernel
theorem d_L_law_407 : decode code 407 = .ok (.iload 4, 2) := by decide +kernel
theorem d_L_law_409 : decode code 409 = .ok (.iconst 2, 1) := by decide +kernel
theorem d_L_law_410 : decode code 410 = .ok (.iadd, 1) := by decide +kernel
theorem d_L_law_411 : decode code 411 = .ok (.iaload, 1) := by decide +kernel
theorem d_L_law_412 : decode code 412 = .ok (.invokevirtual 97, 3) := by decide +kernel
theorem d_L_law_415 : decode code 415 = .ok (.istore 6, 2) := by decide +kernel
theorem d_L_law_417 : decode code 417 = .ok (.aload_n 2, 1) := by decide +kernel
theorem d_L_law_418 : decode code 418 = .ok (.invokevirtual 79, 3) := by decide +kernel
theorem d_L_law_421 : decode code 421 = .ok (.iload 5, 2) := by decide +kernel
theorem d_L_law_423 : decode code 423 = .ok (.if_icmp .eq (5), 3) := by decide +kernel
theorem d_L_law_426 : decode code 426 = .ok (.iconst 0, 1) := by decide +kernel
theorem d_L_law_427 : decode code 427 = .ok (.ireturn, 1) := by decide +kernel
theorem d_L_law_428 : decode code 428 = .ok (.iload 5, 2) := by decide +kernel
theorem d_L_law_430 : decode code 430 = .ok (.ifCond .ne (15), 3) := by decide +kernel
theorem d_L_law_433 : decode code 433 = .ok (.aload_n 3, 1) := by decide +kernel
theorem d_L_law_434 : decode code 434 = .ok (.iconst 0, 1) := by decide +kernel
theorem d_L_law_435 : decode code 435 = .ok (.laload, 1) := by decide +kernel
theorem d_L_law_436 : decode code 436 = .ok (.iload 6, 2) := by decide +kernel
theorem d_L_law_438 : decode code 438 = .ok (.i2l, 1) := by decide +kernel
theorem d_L_law_439 : decode code 439 = .ok (.lcmp, 1) := by decide +kernel
theorem d_L_law_440 : decode code 440 = .ok (.ifCond .eq (5), 3) := by decide +kernel
theorem d_L_law_443 : decode code 443 = .ok (.iconst 0, 1) := by decide +kernel
theorem d_L_law_444 : decode code 444 = .ok (.ireturn, 1) := by decide +kernel
theorem d_L_law_445 : decode code 445 = .ok (.goto (629), 3) := by decide +kernel
theorem d_L_law_448 : decode code 448 = .ok (.aload_n 1, 1) := by decide +kernel
theorem d_L_law_449 : decode code 449 = .ok (.aload_n 0, 1) := by decide +kernel
theorem d_L_law_450 : decode code 450 = .ok (.iload 4, 2) := by decide +kernel
theorem d_L_law_452 : decode code 452 = .ok (.iconst 1, 1) := by decide +kernel
theorem d_L_law_453 : decode code 453 = .ok (.iadd, 1) := by decide +kernel
theorem d_L_law_454 : decode code 454 = .ok (.iaload, 1) := by decide +kernel
theorem d_L_law_455 : decode code 455 = .ok (.aload_n 0, 1) := by decide +kernel
theorem d_L_law_456 : decode code 456 = .ok (.iload 4, 2) := by decide +kernel
theorem d_L_law_458 : decode code 458 = .ok (.iconst 2, 1) := by decide +kernel
theorem d_L_law_459 : decode code 459 = .ok (.iadd, 1) := by decide +kernel
theorem d_L_law_460 : decode code 460 = .ok (.iaload, 1) := by decide +kernel
theorem d_L_law_461 : decode code 461 = .ok (.aload_n 0, 1) := by decide +kernel
theorem d_L_law_462 : decode code 462 = .ok (.iload 4, 2) := by decide +kernel
theorem d_L_law_464 : decode code 464 = .ok (.iconst 3, 1) := by decide +kernel
theorem d_L_law_465 : decode code 465 = .ok (.iadd, 1) := by decide +kernel
theorem d_L_law_466 : decode code 466 = .ok (.iaload, 1) := by decide +kernel
theorem d_L_law_467 : decode code 467 = .ok (.aload_n 0, 1) := by decide +kernel
theorem d_L_law_468 : decode code 468 = .ok (.iload 4, 2) := by decide +kernel
theorem d_L_law_470 : decode code 470 = .ok (.iconst 4, 1) := by decide +kernel
theorem d_L_law_471 : decode code 471 = .ok (.iadd, 1) := by decide +kernel
theorem d_L_law_472 : decode code 472 = .ok (.iaload, 1) := by decide +kernel
theorem d_L_law_473 : decode code 473 = .ok (.invokestatic 98, 3) := by decide +kernel
theorem d_L_law_476 : decode code 476 = .ok (.istore 5, 2) := by decide +kernel
theorem d_L_law_478 : decode code 478 = .ok (.aload_n 2, 1) := by decide +kernel
theorem d_L_law_479 : decode code 479 = .ok (.aload_n 0, 1) := by decide +kernel
theorem d_L_law_480 : decode code 480 = .ok (.iload 4, 2) := by decide +kernel
theorem d_L_law_482 : decode code 482 = .ok (.iconst 1, 1) := by decide +kernel
theorem d_L_law_483 : decode code 483 = .ok (.iadd, 1) := by decide +kernel
theorem d_L_law_484 : decode code 484 = .ok (.iaload, 1) := by decide +kernel
theorem d_L_law_485 : decode code 485 = .ok (.aload_n 0, 1) := by decide +kernel
theorem d_L_law_486 : decode code 486 = .ok (.iload 4, 2) := by decide +kernel
theorem d_L_law_488 : decode code 488 = .ok (.iconst 2, 1) := by decide +kernel
theorem d_L_law_489 : decode code 489 = .ok (.iadd, 1) := by decide +kernel
theorem d_L_law_490 : decode code 490 = .ok (.iaload, 1) := by decide +kernel
theorem d_L_law_491 : decode code 491 = .ok (.aload_n 0, 1) := by decide +kernel
theorem d_L_law_492 : decode code 492 = .ok (.iload 4, 2) := by decide +kernel
theorem d_L_law_494 : decode code 494 = .ok (.iconst 3, 1) := by decide +kernel
theorem d_L_law_495 : decode code 495 = .ok (.iadd, 1) := by decide +kernel
theorem d_L_law_496 : decode code 496 = .ok (.iaload, 1) := by decide +kernel
theorem d_L_law_497 : decode code 497 = .ok (.aload_n 0, 1) := by decide +kernel
theorem d_L_law_498 : decode code 498 = .ok (.iload 4, 2) := by decide +kernel
theorem d_L_law_500 : decode code 500 = .ok (.iconst 4, 1) := by decide +kernel
theorem d_L_law_501 : decode code 501 = .ok (.iadd, 1) := by decide +kernel
theorem d_L_law_502 : decode code 502 = .ok (.iaload, 1) := by decide +kernel
theorem d_L_law_503 : decode code 503 = .ok (.invokevirtual 100, 3) := by decide +kernel
theorem d_L_law_506 : decode code 506 = .ok (.aload_n 2, 1) := by decide +kernel
theorem d_L_law_507 : decode code 507 = .ok (.invokevirtual 79, 3) := by decide +kernel
theorem d_L_law_510 : decode code 510 = .ok (.iload 5, 2) := by decide +kernel
theorem d_L_law_512 : decode code 512 = .ok (.if_icmp .eq (5), 3) := by decide +kernel
theorem d_L_law_515 : decode code 515 = .ok (.iconst 0, 1) := by decide +kernel
theorem d_L_law_516 : decode code 516 = .ok (.ireturn, 1) := by decide +kernel
theorem d_L_law_517 : decode code 517 = .ok (.goto (557), 3) := by decide +kernel
theorem d_L_law_520 : decode code 520 = .ok (.aload_n 1, 1) := by decide +kernel
theorem d_L_law_521 : decode code 521 = .ok (.aload_n 0, 1) := by decide +kernel
theorem d_L_law_522 : decode code 522 = .ok (.iload 4, 2) := by decide +kernel
theorem d_L_law_524 : decode code 524 = .ok (.iconst 1, 1) := by decide +kernel
theorem d_L_law_525 : decode code 525 = .ok (.iadd, 1) := by decide +kernel
theorem d_L_law_526 : decode code 526 = .ok (.iaload, 1) := by decide +kernel
theorem d_L_law_527 : decode code 527 = .ok (.aload_n 0, 1) := by decide +kernel
theorem d_L_law_528 : decode code 528 = .ok (.iload 4, 2) := by decide +kernel
theorem d_L_law_530 : decode code 530 = .ok (.iconst 2, 1) := by decide +kernel
theorem d_L_law_531 : decode code 531 = .ok (.iadd, 1) := by decide +kernel
theorem d_L_law_532 : decode code 532 = .ok (.iaload, 1) := by decide +kernel
theorem d_L_law_533 : decode code 533 = .ok (.invokestatic 101, 3) := by decide +kernel
theorem d_L_law_536 : decode code 536 = .ok (.istore 5, 2) := by decide +kernel
theorem d_L_law_538 : decode code 538 = .ok (.aload_n 2, 1) := by decide +kernel
theorem d_L_law_539 : decode code 539 = .ok (.aload_n 0, 1) := by decide +kernel
theorem d_L_law_540 : decode code 540 = .ok (.iload 4, 2) := by decide +kernel
theorem d_L_law_542 : decode code 542 = .ok (.iconst 1, 1) := by decide +kernel
theorem d_L_law_543 : decode code 543 = .ok (.iadd, 1) := by decide +kernel
theorem d_L_law_544 : decode code 544 = .ok (.iaload, 1) := by decide +kernel
theorem d_L_law_545 : decode code 545 = .ok (.aload_n 0, 1) := by decide +kernel
theorem d_L_law_546 : decode code 546 = .ok (.iload 4, 2) := by decide +kernel
theorem d_L_law_548 : decode code 548 = .ok (.iconst 2, 1) := by decide +kernel
theorem d_L_law_549 : decode code 549 = .ok (.iadd, 1) := by decide +kernel
theorem d_L_law_550 : decode code 550 = .ok (.iaload, 1) := by decide +kernel
theorem d_L_law_551 : decode code 551 = .ok (.invokevirtual 103, 3) := by decide +kernel
theorem d_L_law_554 : decode code 554 = .ok (.aload_n 2, 1) := by decide +kernel
theorem d_L_law_555 : decode code 555 = .ok (.invokevirtual 79, 3) := by decide +kernel
theorem d_L_law_558 : decode code 558 = .ok (.iload 5, 2) := by decide +kernel
theorem d_L_law_560 : decode code 560 = .ok (.if_icmp .eq (5), 3) := by decide +kernel
theorem d_L_law_563 : decode code 563 = .ok (.iconst 0, 1) := by decide +kernel
theorem d_L_law_564 : decode code 564 = .ok (.ireturn, 1) := by decide +kernel
theorem d_L_law_565 : decode code 565 = .ok (.goto (509), 3) := by decide +kernel
theorem d_L_law_568 : decode code 568 = .ok (.aload_n 1, 1) := by decide +kernel
theorem d_L_law_569 : decode code 569 = .ok (.aload_n 0, 1) := by decide +kernel
theorem d_L_law_570 : decode code 570 = .ok (.iload 4, 2) := by decide +kernel
theorem d_L_law_572 : decode code 572 = .ok (.iconst 1, 1) := by decide +kernel
theorem d_L_law_573 : decode code 573 = .ok (.iadd, 1) := by decide +kernel
theorem d_L_law_574 : decode code 574 = .ok (.iaload, 1) := by decide +kernel
theorem d_L_law_575 : decode code 575 = .ok (.aload_n 0, 1) := by decide +kernel
theorem d_L_law_576 : decode code 576 = .ok (.iload 4, 2) := by decide +kernel
theorem d_L_law_578 : decode code 578 = .ok (.iconst 2, 1) := by decide +kernel
theorem d_L_law_579 : decode code 579 = .ok (.iadd, 1) := by decide +kernel
theorem d_L_law_580 : decode code 580 = .ok (.iaload, 1) := by decide +kernel
theorem d_L_law_581 : decode code 581 = .ok (.aload_n 3, 1) := by decide +kernel
theorem d_L_law_582 : decode code 582 = .ok (.invokestatic 104, 3) := by decide +kernel
theorem d_L_law_585 : decode code 585 = .ok (.istore 5, 2) := by decide +kernel
theorem d_L_law_587 : decode code 587 = .ok (.aload_n 2, 1) := by decide +kernel
theorem d_L_law_588 : decode code 588 = .ok (.aload_n 0, 1) := by decide +kernel
theorem d_L_law_589 : decode code 589 = .ok (.iload 4, 2) := by decide +kernel
theorem d_L_law_591 : decode code 591 = .ok (.iconst 1, 1) := by decide +kernel
theorem d_L_law_592 : decode code 592 = .ok (.iadd, 1) := by decide +kernel
theorem d_L_law_593 : decode code 593 = .ok (.iaload, 1) := by decide +kernel
theorem d_L_law_594 : decode code 594 = .ok (.aload_n 0, 1) := by decide +kernel
theorem d_L_law_595 : decode code 595 = .ok (.iload 4, 2) := by decide +kernel
theorem d_L_law_597 : decode code 597 = .ok (.iconst 2, 1) := by decide +kernel
theorem d_L_law_598 : decode code 598 = .ok (.iadd, 1) := by decide +kernel
theorem d_L_law_599 : decode code 599 = .ok (.iaload, 1) := by decide +kernel
theorem d_L_law_600 : decode code 600 = .ok (.invokevirtual 106, 3) := by decide +kernel
theorem d_L_law_603 : decode code 603 = .ok (.istore 6, 2) := by decide +kernel
theorem d_L_law_605 : decode code 605 = .ok (.aload_n 2, 1) := by decide +kernel
theorem d_L_law_606 : decode code 606 = .ok (.invokevirtual 79, 3) := by decide +kernel
theorem d_L_law_609 : decode code 609 = .ok (.iload 5, 2) := by decide +kernel
theorem d_L_law_611 : decode code 611 = .ok (.if_icmp .eq (5), 3) := by decide +kernel
theorem d_L_law_614 : decode code 614 = .ok (.iconst 0, 1) := by decide +kernel
theorem d_L_law_615 : decode code 615 = .ok (.ireturn, 1) := by decide +kernel
theorem d_L_law_616 : decode code 616 = .ok (.iload 5, 2) := by decide +kernel
theorem d_L_law_618 : decode code 618 = .ok (.ifCond .ne (15), 3) := by decide +kernel
theorem d_L_law_621 : decode code 621 = .ok (.aload_n 3, 1) := by decide +kernel
theorem d_L_law_622 : decode code 622 = .ok (.iconst 0, 1) := by decide +kernel
theorem d_L_law_623 : decode code 623 = .ok (.laload, 1) := by decide +kernel
theorem d_L_law_624 : decode code 624 = .ok (.iload 6, 2) := by decide +kernel
theorem d_L_law_626 : decode code 626 = .ok (.i2l, 1) := by decide +kernel
theorem d_L_law_627 : decode code 627 = .ok (.lcmp, 1) := by decide +kernel
theorem d_L_law_628 : decode code 628 = .ok (.ifCond .eq (5), 3) := by decide +kernel
theorem d_L_law_631 : decode code 631 = .ok (.iconst 0, 1) := by decide +kernel
theorem d_L_law_632 : decode code 632 = .ok (.ireturn, 1) := by decide +kernel
theorem d_L_law_633 : decode code 633 = .ok (.goto (441), 3) := by decide +kernel
theorem d_L_law_636 : decode code 636 = .ok (.aload_n 1, 1) := by decide +kernel
theorem d_L_law_637 : decode code 637 = .ok (.aload_n 0, 1) := by decide +kernel
theorem d_L_law_638 : decode code 638 = .ok (.iload 4, 2) := by decide +kernel
theorem d_L_law_640 : decode code 640 = .ok (.iconst 1, 1) := by decide +kernel
theorem d_L_law_641 : decode code 641 = .ok (.iadd, 1) := by decide +kernel
theorem d_L_law_642 : decode code 642 = .ok (.iaload, 1) := by decide +kernel
theorem d_L_law_643 : decode code 643 = .ok (.aload_n 3, 1) := by decide +kernel
theorem d_L_law_644 : decode code 644 = .ok (.invokestatic 107, 3) := by decide +kernel
theorem d_L_law_647 : decode code 647 = .ok (.istore 5, 2) := by decide +kernel
theorem d_L_law_649 : decode code 649 = .ok (.aload_n 2, 1) := by decide +kernel
theorem d_L_law_650 : decode code 650 = .ok (.aload_n 0, 1) := by decide +kernel
theorem d_L_law_651 : decode code 651 = .ok (.iload 4, 2) := by decide +kernel
theorem d_L_law_653 : decode code 653 = .ok (.iconst 1, 1) := by decide +kernel
theorem d_L_law_654 : decode code 654 = .ok (.iadd, 1) := by decide +kernel
theorem d_L_law_655 : decode code 655 = .ok (.iaload, 1) := by decide +kernel
theorem d_L_law_656 : decode code 656 = .ok (.invokevirtual 110, 3) := by decide +kernel
theorem d_L_law_659 : decode code 659 = .ok (.istore 6, 2) := by decide +kernel
theorem d_L_law_661 : decode code 661 = .ok (.aload_n 2, 1) := by decide +kernel
theorem d_L_law_662 : decode code 662 = .ok (.invokevirtual 79, 3) := by decide +kernel
theorem d_L_law_665 : decode code 665 = .ok (.iload 5, 2) := by decide +kernel
theorem d_L_law_667 : decode code 667 = .ok (.if_icmp .eq (5), 3) := by decide +kernel
theorem d_L_law_670 : decode code 670 = .ok (.iconst 0, 1) := by decide +kernel
theorem d_L_law_671 : decode code 671 = .ok (.ireturn, 1) := by decide +kernel
theorem d_L_law_672 : decode code 672 = .ok (.iload 5, 2) := by decide +kernel
theorem d_L_law_674 : decode code 674 = .ok (.ifCond .ne (15), 3) := by decide +kernel
theorem d_L_law_677 : decode code 677 = .ok (.aload_n 3, 1) := by decide +kernel
theorem d_L_law_678 : decode code 678 = .ok (.iconst 0, 1) := by decide +kernel
theorem d_L_law_679 : decode code 679 = .ok (.laload, 1) := by decide +kernel
theorem d_L_law_680 : decode code 680 = .ok (.iload 6, 2) := by decide +kernel
theorem d_L_law_682 : decode code 682 = .ok (.i2l, 1) := by decide +kernel
theorem d_L_law_683 : decode code 683 = .ok (.lcmp, 1) := by decide +kernel
theorem d_L_law_684 : decode code 684 = .ok (.ifCond .eq (5), 3) := by decide +kernel
theorem d_L_law_687 : decode code 687 = .ok (.iconst 0, 1) := by decide +kernel
theorem d_L_law_688 : decode code 688 = .ok (.ireturn, 1) := by decide +kernel
theorem d_L_law_689 : decode code 689 = .ok (.goto (385), 3) := by decide +kernel
theorem d_L_law_692 : decode code 692 = .ok (.aload_n 1, 1) := by decide +kernel
theorem d_L_law_693 : decode code 693 = .ok (.aload_n 0, 1) := by decide +kernel
theorem d_L_law_694 : decode code 694 = .ok (.iload 4, 2) := by decide +kernel
theorem d_L_law_696 : decode code 696 = .ok (.iconst 1, 1) := by decide +kernel
theorem d_L_law_697 : decode code 697 = .ok (.iadd, 1) := by decide +kernel
theorem d_L_law_698 : decode code 698 = .ok (.iaload, 1) := by decide +kernel
theorem d_L_law_699 : decode code 699 = .ok (.aload_n 0, 1) := by decide +kernel
theorem d_L_law_700 : decode code 700 = .ok (.iload 4, 2) := by decide +kernel
theorem d_L_law_702 : decode code 702 = .ok (.iconst 2, 1) := by decide +kernel
theorem d_L_law_703 : decode code 703 = .ok (.iadd, 1) := by decide +kernel
theorem d_L_law_704 : decode code 704 = .ok (.iaload, 1) := by decide +kernel
theorem d_L_law_705 : decode code 705 = .ok (.aload_n 3, 1) := by decide +kernel
theorem d_L_law_706 : decode code 706 = .ok (.invokestatic 111, 3) := by decide +kernel
theorem d_L_law_709 : decode code 709 = .ok (.istore 5, 2) := by decide +kernel
theorem d_L_law_711 : decode code 711 = .ok (.aload_n 2, 1) := by decide +kernel
theorem d_L_law_712 : decode code 712 = .ok (.aload_n 0, 1) := by decide +kernel
theorem d_L_law_713 : decode code 713 = .ok (.iload 4, 2) := by decide +kernel
theorem d_L_law_715 : decode code 715 = .ok (.iconst 1, 1) := by decide +kernel
theorem d_L_law_716 : decode code 716 = .ok (.iadd, 1) := by decide +kernel
theorem d_L_law_717 : decode code 717 = .ok (.iaload, 1) := by decide +kernel
theorem d_L_law_718 : decode code 718 = .ok (.aload_n 0, 1) := by decide +kernel
theorem d_L_law_719 : decode code 719 = .ok (.iload 4, 2) := by decide +kernel
theorem d_L_law_721 : decode code 721 = .ok (.iconst 2, 1) := by decide +kernel
theorem d_L_law_722 : decode code 722 = .ok (.iadd, 1) := by decide +kernel
theorem d_L_law_723 : decode code 723 = .ok (.iaload, 1) := by decide +kernel
theorem d_L_law_724 : decode code 724 = .ok (.invokevirtual 113, 3) := by decide +kernel
theorem d_L_law_727 : decode code 727 = .ok (.istore 6, 2) := by decide +kernel
theorem d_L_law_729 : decode code 729 = .ok (.aload_n 2, 1) := by decide +kernel
theorem d_L_law_730 : decode code 730 = .ok (.invokevirtual 79, 3) := by decide +kernel
theorem d_L_law_733 : decode code 733 = .ok (.iload 5, 2) := by decide +kernel
theorem d_L_law_735 : decode code 735 = .ok (.if_icmp .eq (5), 3) := by decide +kernel
theorem d_L_law_738 : decode code 738 = .ok (.iconst 0, 1) := by decide +kernel
theorem d_L_law_739 : decode code 739 = .ok (.ireturn, 1) := by decide +kernel
theorem d_L_law_740 : decode code 740 = .ok (.iload 5, 2) := by decide +kernel
theorem d_L_law_742 : decode code 742 = .ok (.ifCond .ne (15), 3) := by decide +kernel
theorem d_L_law_745 : decode code 745 = .ok (.aload_n 3, 1) := by decide +kernel
theorem d_L_law_746 : decode code 746 = .ok (.iconst 0, 1) := by decide +kernel
theorem d_L_law_747 : decode code 747 = .ok (.laload, 1) := by decide +kernel
theorem d_L_law_748 : decode code 748 = .ok (.iload 6, 2) := by decide +kernel
theorem d_L_law_750 : decode code 750 = .ok (.i2l, 1) := by decide +kernel
theorem d_L_law_751 : decode code 751 = .ok (.lcmp, 1) := by decide +kernel
theorem d_L_law_752 : decode code 752 = .ok (.ifCond .eq (5), 3) := by decide +kernel
theorem d_L_law_755 : decode code 755 = .ok (.iconst 0, 1) := by decide +kernel
theorem d_L_law_756 : decode code 756 = .ok (.ireturn, 1) := by decide +kernel
theorem d_L_law_757 : decode code 757 = .ok (.goto (317), 3) := by decide +kernel
theorem d_L_law_760 : decode code 760 = .ok (.aload_n 1, 1) := by decide +kernel
theorem d_L_law_761 : decode code 761 = .ok (.aload_n 0, 1) := by decide +kernel
theorem d_L_law_762 : decode code 762 = .ok (.iload 4, 2) := by decide +kernel
theorem d_L_law_764 : decode code 764 = .ok (.iconst 1, 1) := by decide +kernel
theorem d_L_law_765 : decode code 765 = .ok (.iadd, 1) := by decide +kernel
theorem d_L_law_766 : decode code 766 = .ok (.iaload, 1) := by decide +kernel
theorem d_L_law_767 : decode code 767 = .ok (.aload_n 0, 1) := by decide +kernel
theorem d_L_law_768 : decode code 768 = .ok (.iload 4, 2) := by decide +kernel
theorem d_L_law_770 : decode code 770 = .ok (.iconst 2, 1) := by decide +kernel
theorem d_L_law_771 : decode code 771 = .ok (.iadd, 1) := by decide +kernel
theorem d_L_law_772 : decode code 772 = .ok (.iaload, 1) := by decide +kernel
theorem d_L_law_773 : decode code 773 = .ok (.aload_n 0, 1) := by decide +kernel
theorem d_L_law_774 : decode code 774 = .ok (.iload 4, 2) := by decide +kernel
theorem d_L_law_776 : decode code 776 = .ok (.iconst 3, 1) := by decide +kernel
theorem d_L_law_777 : decode code 777 = .ok (.iadd, 1) := by decide +kernel
theorem d_L_law_778 : decode code 778 = .ok (.iaload, 1) := by decide +kernel
theorem d_L_law_779 : decode code 779 = .ok (.aload_n 0, 1) := by decide +kernel
theorem d_L_law_780 : decode code 780 = .ok (.iload 4, 2) := by decide +kernel
theorem d_L_law_782 : decode code 782 = .ok (.iconst 4, 1) := by decide +kernel
theorem d_L_law_783 : decode code 783 = .ok (.iadd, 1) := by decide +kernel
theorem d_L_law_784 : decode code 784 = .ok (.iaload, 1) := by decide +kernel
theorem d_L_law_785 : decode code 785 = .ok (.aload_n 3, 1) := by decide +kernel
theorem d_L_law_786 : decode code 786 = .ok (.invokestatic 114, 3) := by decide +kernel
theorem d_L_law_789 : decode code 789 = .ok (.istore 5, 2) := by decide +kernel
theorem d_L_law_791 : decode code 791 = .ok (.aload_n 2, 1) := by decide +kernel
theorem d_L_law_792 : decode code 792 = .ok (.aload_n 0, 1) := by decide +kernel
theorem d_L_law_793 : decode code 793 = .ok (.iload 4, 2) := by decide +kernel
theorem d_L_law_795 : decode code 795 = .ok (.iconst 1, 1) := by decide +kernel
theorem d_L_law_796 : decode code 796 = .ok (.iadd, 1) := by decide +kernel
theorem d_L_law_797 : decode code 797 = .ok (.iaload, 1) := by decide +kernel
theorem d_L_law_798 : decode code 798 = .ok (.aload_n 0, 1) := by decide +kernel
theorem d_L_law_799 : decode code 799 = .ok (.iload 4, 2) := by decide +kernel
theorem d_L_law_801 : decode code 801 = .ok (.iconst 2, 1) := by decide +kernel
theorem d_L_law_802 : decode code 802 = .ok (.iadd, 1) := by decide +kernel
theorem d_L_law_803 : decode code 803 = .ok (.iaload, 1) := by decide +kernel
theorem d_L_law_804 : decode code 804 = .ok (.aload_n 0, 1) := by decide +kernel
theorem d_L_law_805 : decode code 805 = .ok (.iload 4, 2) := by decide +kernel
theorem d_L_law_807 : decode code 807 = .ok (.iconst 3, 1) := by decide +kernel
theorem d_L_law_808 : decode code 808 = .ok (.iadd, 1) := by decide +kernel
theorem d_L_law_809 : decode code 809 = .ok (.iaload, 1) := by decide +kernel
theorem d_L_law_810 : decode code 810 = .ok (.aload_n 0, 1) := by decide +kernel
theorem d_L_law_811 : decode code 811 = .ok (.iload 4, 2) := by decide +kernel
theorem d_L_law_813 : decode code 813 = .ok (.iconst 4, 1) := by decide +kernel
theorem d_L_law_814 : decode code 814 = .ok (.iadd, 1) := by decide +kernel
theorem d_L_law_815 : decode code 815 = .ok (.iaload, 1) := by decide +kernel
theorem d_L_law_816 : decode code 816 = .ok (.invokevirtual 117, 3) := by decide +kernel
theorem d_L_law_819 : decode code 819 = .ok (.lstore 6, 2) := by decide +kernel
theorem d_L_law_821 : decode code 821 = .ok (.aload_n 2, 1) := by decide +kernel
theorem d_L_law_822 : decode code 822 = .ok (.invokevirtual 79, 3) := by decide +kernel
theorem d_L_law_825 : decode code 825 = .ok (.iload 5, 2) := by decide +kernel
theorem d_L_law_827 : decode code 827 = .ok (.if_icmp .eq (5), 3) := by decide +kernel
theorem d_L_law_830 : decode code 830 = .ok (.iconst 0, 1) := by decide +kernel
theorem d_L_law_831 : decode code 831 = .ok (.ireturn, 1) := by decide +kernel
theorem d_L_law_832 : decode code 832 = .ok (.iload 5, 2) := by decide +kernel
theorem d_L_law_834 : decode code 834 = .ok (.ifCond .ne (14), 3) := by decide +kernel
theorem d_L_law_837 : decode code 837 = .ok (.aload_n 3, 1) := by decide +kernel
theorem d_L_law_838 : decode code 838 = .ok (.iconst 0, 1) := by decide +kernel
theorem d_L_law_839 : decode code 839 = .ok (.laload, 1) := by decide +kernel
theorem d_L_law_840 : decode code 840 = .ok (.lload 6, 2) := by decide +kernel
theorem d_L_law_842 : decode code 842 = .ok (.lcmp, 1) := by decide +kernel
theorem d_L_law_843 : decode code 843 = .ok (.ifCond .eq (5), 3) := by decide +kernel
theorem d_L_law_846 : decode code 846 = .ok (.iconst 0, 1) := by decide +kernel
theorem d_L_law_847 : decode code 847 = .ok (.ireturn, 1) := by decide +kernel
theorem d_L_law_848 : decode code 848 = .ok (.goto (226), 3) := by decide +kernel
theorem d_L_law_851 : decode code 851 = .ok (.aload_n 1, 1) := by decide +kernel
theorem d_L_law_852 : decode code 852 = .ok (.aload_n 0, 1) := by decide +kernel
theorem d_L_law_853 : decode code 853 = .ok (.iload 4, 2) := by decide +kernel
theorem d_L_law_855 : decode code 855 = .ok (.iconst 1, 1) := by decide +kernel
theorem d_L_law_856 : decode code 856 = .ok (.iadd, 1) := by decide +kernel
theorem d_L_law_857 : decode code 857 = .ok (.iaload, 1) := by decide +kernel
theorem d_L_law_858 : decode code 858 = .ok (.aload_n 3, 1) := by decide +kernel
theorem d_L_law_859 : decode code 859 = .ok (.invokestatic 118, 3) := by decide +kernel
theorem d_L_law_862 : decode code 862 = .ok (.istore 5, 2) := by decide +kernel
theorem d_L_law_864 : decode code 864 = .ok (.aload_n 2, 1) := by decide +kernel
theorem d_L_law_865 : decode code 865 = .ok (.aload_n 0, 1) := by decide +kernel
theorem d_L_law_866 : decode code 866 = .ok (.iload 4, 2) := by decide +kernel
theorem d_L_law_868 : decode code 868 = .ok (.iconst 1, 1) := by decide +kernel
theorem d_L_law_869 : decode code 869 = .ok (.iadd, 1) := by decide +kernel
theorem d_L_law_870 : decode code 870 = .ok (.iaload, 1) := by decide +kernel
theorem d_L_law_871 : decode code 871 = .ok (.invokevirtual 120, 3) := by decide +kernel
theorem d_L_law_874 : decode code 874 = .ok (.lstore 6, 2) := by decide +kernel
theorem d_L_law_876 : decode code 876 = .ok (.aload_n 2, 1) := by decide +kernel
theorem d_L_law_877 : decode code 877 = .ok (.invokevirtual 79, 3) := by decide +kernel
theorem d_L_law_880 : decode code 880 = .ok (.iload 5, 2) := by decide +kernel
theorem d_L_law_882 : decode code 882 = .ok (.if_icmp .eq (5), 3) := by decide +kernel
theorem d_L_law_885 : decode code 885 = .ok (.iconst 0, 1) := by decide +kernel
theorem d_L_law_886 : decode code 886 = .ok (.ireturn, 1) := by decide +kernel
theorem d_L_law_887 : decode code 887 = .ok (.iload 5, 2) := by decide +kernel
theorem d_L_law_889 : decode code 889 = .ok (.ifCond .ne (14), 3) := by decide +kernel
theorem d_L_law_892 : decode code 892 = .ok (.aload_n 3, 1) := by decide +kernel
theorem d_L_law_893 : decode code 893 = .ok (.iconst 0, 1) := by decide +kernel
theorem d_L_law_894 : decode code 894 = .ok (.laload, 1) := by decide +kernel
theorem d_L_law_895 : decode code 895 = .ok (.lload 6, 2) := by decide +kernel
theorem d_L_law_897 : decode code 897 = .ok (.lcmp, 1) := by decide +kernel
theorem d_L_law_898 : decode code 898 = .ok (.ifCond .eq (5), 3) := by decide +kernel
end
section
theorem d_L_law_901 : decode code 901 = .ok (.iconst 0, 1) := by decide +kernel
theorem d_L_law_902 : decode code 902 = .ok (.ireturn, 1) := by decide +kernel
theorem d_L_law_903 : decode code 903 = .ok (.goto (171), 3) := by decide +kernel
theorem d_L_law_906 : decode code 906 = .ok (.aload_n 1, 1) := by decide +kernel
theorem d_L_law_907 : decode code 907 = .ok (.aload_n 0, 1) := by decide +kernel
theorem d_L_law_908 : decode code 908 = .ok (.iload 4, 2) := by decide +kernel
theorem d_L_law_910 : decode code 910 = .ok (.iconst 1, 1) := by decide +kernel
theorem d_L_law_911 : decode code 911 = .ok (.iadd, 1) := by decide +kernel
theorem d_L_law_912 : decode code 912 = .ok (.iaload, 1) := by decide +kernel
theorem d_L_law_913 : decode code 913 = .ok (.aload_n 3, 1) := by decide +kernel
theorem d_L_law_914 : decode code 914 = .ok (.invokestatic 121, 3) := by decide +kernel
theorem d_L_law_917 : decode code 917 = .ok (.istore 5, 2) := by decide +kernel
theorem d_L_law_919 : decode code 919 = .ok (.aload_n 2, 1) := by decide +kernel
theorem d_L_law_920 : decode code 920 = .ok (.aload_n 0, 1) := by decide +kernel
theorem d_L_law_921 : decode code 921 = .ok (.iload 4, 2) := by decide +kernel
theorem d_L_law_923 : decode code 923 = .ok (.iconst 1, 1) := by decide +kernel
theorem d_L_law_924 : decode code 924 = .ok (.iadd, 1) := by decide +kernel
theorem d_L_law_925 : decode code 925 = .ok (.iaload, 1) := by decide +kernel
theorem d_L_law_926 : decode code 926 = .ok (.invokevirtual 123, 3) := by decide +kernel
theorem d_L_law_929 : decode code 929 = .ok (.istore 6, 2) := by decide +kernel
theorem d_L_law_931 : decode code 931 = .ok (.aload_n 2, 1) := by decide +kernel
theorem d_L_law_932 : decode code 932 = .ok (.invokevirtual 79, 3) := by decide +kernel
theorem d_L_law_935 : decode code 935 = .ok (.iload 5, 2) := by decide +kernel
theorem d_L_law_937 : decode code 937 = .ok (.if_icmp .eq (5), 3) := by decide +kernel
theorem d_L_law_940 : decode code 940 = .ok (.iconst 0, 1) := by decide +kernel
theorem d_L_law_941 : decode code 941 = .ok (.ireturn, 1) := by decide +kernel
theorem d_L_law_942 : decode code 942 = .ok (.iload 5, 2) := by decide +kernel
theorem d_L_law_944 : decode code 944 = .ok (.ifCond .ne (15), 3) := by decide +kernel
theorem d_L_law_947 : decode code 947 = .ok (.aload_n 3, 1) := by decide +kernel
theorem d_L_law_948 : decode code 948 = .ok (.iconst 0, 1) := by decide +kernel
theorem d_L_law_949 : decode code 949 = .ok (.laload, 1) := by decide +kernel
theorem d_L_law_950 : decode code 950 = .ok (.iload 6, 2) := by decide +kernel
theorem d_L_law_952 : decode code 952 = .ok (.i2l, 1) := by decide +kernel
theorem d_L_law_953 : decode code 953 = .ok (.lcmp, 1) := by decide +kernel
theorem d_L_law_954 : decode code 954 = .ok (.ifCond .eq (5), 3) := by decide +kernel
theorem d_L_law_957 : decode code 957 = .ok (.iconst 0, 1) := by decide +kernel
theorem d_L_law_958 : decode code 958 = .ok (.ireturn, 1) := by decide +kernel
theorem d_L_law_959 : decode code 959 = .ok (.goto (115), 3) := by decide +kernel
theorem d_L_law_962 : decode code 962 = .ok (.aload_n 1, 1) := by decide +kernel
theorem d_L_law_963 : decode code 963 = .ok (.aload_n 0, 1) := by decide +kernel
theorem d_L_law_964 : decode code 964 = .ok (.iload 4, 2) := by decide +kernel
theorem d_L_law_966 : decode code 966 = .ok (.iconst 1, 1) := by decide +kernel
theorem d_L_law_967 : decode code 967 = .ok (.iadd, 1) := by decide +kernel
theorem d_L_law_968 : decode code 968 = .ok (.iaload, 1) := by decide +kernel
theorem d_L_law_969 : decode code 969 = .ok (.aload_n 3, 1) := by decide +kernel
theorem d_L_law_970 : decode code 970 = .ok (.invokestatic 124, 3) := by decide +kernel
theorem d_L_law_973 : decode code 973 = .ok (.istore 5, 2) := by decide +kernel
theorem d_L_law_975 : decode code 975 = .ok (.aload_n 2, 1) := by decide +kernel
theorem d_L_law_976 : decode code 976 = .ok (.aload_n 0, 1) := by decide +kernel
theorem d_L_law_977 : decode code 977 = .ok (.iload 4, 2) := by decide +kernel
theorem d_L_law_979 : decode code 979 = .ok (.iconst 1, 1) := by decide +kernel
theorem d_L_law_980 : decode code 980 = .ok (.iadd, 1) := by decide +kernel
theorem d_L_law_981 : decode code 981 = .ok (.iaload, 1) := by decide +kernel
theorem d_L_law_982 : decode code 982 = .ok (.invokevirtual 126, 3) := by decide +kernel
theorem d_L_law_985 : decode code 985 = .ok (.istore 6, 2) := by decide +kernel
theorem d_L_law_987 : decode code 987 = .ok (.aload_n 2, 1) := by decide +kernel
theorem d_L_law_988 : decode code 988 = .ok (.invokevirtual 79, 3) := by decide +kernel
theorem d_L_law_991 : decode code 991 = .ok (.iload 5, 2) := by decide +kernel
theorem d_L_law_993 : decode code 993 = .ok (.if_icmp .eq (5), 3) := by decide +kernel
theorem d_L_law_996 : decode code 996 = .ok (.iconst 0, 1) := by decide +kernel
theorem d_L_law_997 : decode code 997 = .ok (.ireturn, 1) := by decide +kernel
theorem d_L_law_998 : decode code 998 = .ok (.iload 5, 2) := by decide +kernel
theorem d_L_law_1000 : decode code 1000 = .ok (.ifCond .ne (15), 3) := by decide +kernel
theorem d_L_law_1003 : decode code 1003 = .ok (.aload_n 3, 1) := by decide +kernel
theorem d_L_law_1004 : decode code 1004 = .ok (.iconst 0, 1) := by decide +kernel
theorem d_L_law_1005 : decode code 1005 = .ok (.laload, 1) := by decide +kernel
theorem d_L_law_1006 : decode code 1006 = .ok (.iload 6, 2) := by decide +kernel
theorem d_L_law_1008 : decode code 1008 = .ok (.i2l, 1) := by decide +kernel
theorem d_L_law_1009 : decode code 1009 = .ok (.lcmp, 1) := by decide +kernel
theorem d_L_law_1010 : decode code 1010 = .ok (.ifCond .eq (5), 3) := by decide +kernel
theorem d_L_law_1013 : decode code 1013 = .ok (.iconst 0, 1) := by decide +kernel
theorem d_L_law_1014 : decode code 1014 = .ok (.ireturn, 1) := by decide +kernel
theorem d_L_law_1015 : decode code 1015 = .ok (.goto (59), 3) := by decide +kernel
theorem d_L_law_1018 : decode code 1018 = .ok (.aload_n 1, 1) := by decide +kernel
theorem d_L_law_1019 : decode code 1019 = .ok (.aload_n 0, 1) := by decide +kernel
theorem d_L_law_1020 : decode code 1020 = .ok (.iload 4, 2) := by decide +kernel
theorem d_L_law_1022 : decode code 1022 = .ok (.iconst 1, 1) := by decide +kernel
theorem d_L_law_1023 : decode code 1023 = .ok (.iadd, 1) := by decide +kernel
theorem d_L_law_1024 : decode code 1024 = .ok (.iaload, 1) := by decide +kernel
theorem d_L_law_1025 : decode code 1025 = .ok (.aload_n 3, 1) := by decide +kernel
theorem d_L_law_1026 : decode code 1026 = .ok (.invokestatic 127, 3) := by decide +kernel
theorem d_L_law_1029 : decode code 1029 = .ok (.istore 5, 2) := by decide +kernel
theorem d_L_law_1031 : decode code 1031 = .ok (.aload_n 2, 1) := by decide +kernel
theorem d_L_law_1032 : decode code 1032 = .ok (.aload_n 0, 1) := by decide +kernel
theorem d_L_law_1033 : decode code 1033 = .ok (.iload 4, 2) := by decide +kernel
theorem d_L_law_1035 : decode code 1035 = .ok (.iconst 1, 1) := by decide +kernel
theorem d_L_law_1036 : decode code 1036 = .ok (.iadd, 1) := by decide +kernel
theorem d_L_law_1037 : decode code 1037 = .ok (.iaload, 1) := by decide +kernel
theorem d_L_law_1038 : decode code 1038 = .ok (.invokevirtual 129, 3) := by decide +kernel
theorem d_L_law_1041 : decode code 1041 = .ok (.istore 6, 2) := by decide +kernel
theorem d_L_law_1043 : decode code 1043 = .ok (.aload_n 2, 1) := by decide +kernel
theorem d_L_law_1044 : decode code 1044 = .ok (.invokevirtual 79, 3) := by decide +kernel
theorem d_L_law_1047 : decode code 1047 = .ok (.iload 5, 2) := by decide +kernel
theorem d_L_law_1049 : decode code 1049 = .ok (.if_icmp .eq (5), 3) := by decide +kernel
theorem d_L_law_1052 : decode code 1052 = .ok (.iconst 0, 1) := by decide +kernel
theorem d_L_law_1053 : decode code 1053 = .ok (.ireturn, 1) := by decide +kernel
theorem d_L_law_1054 : decode code 1054 = .ok (.iload 5, 2) := by decide +kernel
theorem d_L_law_1056 : decode code 1056 = .ok (.ifCond .ne (15), 3) := by decide +kernel
theorem d_L_law_1059 : decode code 1059 = .ok (.aload_n 3, 1) := by decide +kernel
theorem d_L_law_1060 : decode code 1060 = .ok (.iconst 0, 1) := by decide +kernel
theorem d_L_law_1061 : decode code 1061 = .ok (.laload, 1) := by decide +kernel
theorem d_L_law_1062 : decode code 1062 = .ok (.iload 6, 2) := by decide +kernel
theorem d_L_law_1064 : decode code 1064 = .ok (.i2l, 1) := by decide +kernel
theorem d_L_law_1065 : decode code 1065 = .ok (.lcmp, 1) := by decide +kernel
theorem d_L_law_1066 : decode code 1066 = .ok (.ifCond .eq (5), 3) := by decide +kernel
theorem d_L_law_1069 : decode code 1069 = .ok (.iconst 0, 1) := by decide +kernel
theorem d_L_law_1070 : decode code 1070 = .ok (.ireturn, 1) := by decide +kernel
theorem d_L_law_1071 : decode code 1071 = .ok (.goto (3), 3) := by decide +kernel
theorem d_L_law_1074 : decode code 1074 = .ok (.iinc 4 (5), 3) := by decide +kernel
theorem d_L_law_1077 : decode code 1077 = .ok (.goto (-1054), 3) := by decide +kernel
theorem d_L_law_1080 : decode code 1080 = .ok (.iconst 1, 1) := by decide +kernel
theorem d_L_law_1081 : decode code 1081 = .ok (.ireturn, 1) := by decide +kernel
end
section
theorem d_M_init_0 : decode c_M_init 0 = .ok (.aload_n 0, 1) := by decide +kernel
theorem d_M_init_1 : decode c_M_init 1 = .ok (.invokespecial 1, 3) := by decide +kernel
theorem d_M_init_4 : decode c_M_init 4 = .ok (.aload_n 0, 1) := by decide +kernel
theorem d_M_init_5 : decode c_M_init 5 = .ok (.iconst 5, 1) := by decide +kernel
theorem d_M_init_6 : decode c_M_init 6 = .ok (.newarray .int, 2) := by decide +kernel
theorem d_M_init_8 : decode c_M_init 8 = .ok (.putfield 7, 3) := by decide +kernel
theorem d_M_init_11 : decode c_M_init 11 = .ok (.aload_n 0, 1) := by decide +kernel
theorem d_M_init_12 : decode c_M_init 12 = .ok (.iconst 5, 1) := by decide +kernel
theorem d_M_init_13 : decode c_M_init 13 = .ok (.newarray .int, 2) := by decide +kernel
theorem d_M_init_15 : decode c_M_init 15 = .ok (.putfield 13, 3) := by decide +kernel
theorem d_M_init_18 : decode c_M_init 18 = .ok (.aload_n 0, 1) := by decide +kernel
theorem d_M_init_19 : decode c_M_init 19 = .ok (.iconst 5, 1) := by decide +kernel
theorem d_M_init_20 : decode c_M_init 20 = .ok (.newarray .int, 2) := by decide +kernel
theorem d_M_init_22 : decode c_M_init 22 = .ok (.putfield 16, 3) := by decide +kernel
theorem d_M_init_25 : decode c_M_init 25 = .ok (.aload_n 0, 1) := by decide +kernel
theorem d_M_init_26 : decode c_M_init 26 = .ok (.iconst 5, 1) := by decide +kernel
theorem d_M_init_27 : decode c_M_init 27 = .ok (.newarray .int, 2) := by decide +kernel
theorem d_M_init_29 : decode c_M_init 29 = .ok (.putfield 19, 3) := by decide +kernel
theorem d_M_init_32 : decode c_M_init 32 = .ok (.aload_n 0, 1) := by decide +kernel
theorem d_M_init_33 : decode c_M_init 33 = .ok (.bipush (20), 2) := by decide +kernel
theorem d_M_init_35 : decode c_M_init 35 = .ok (.newarray .int, 2) := by decide +kernel
theorem d_M_init_37 : decode c_M_init 37 = .ok (.putfield 22, 3) := by decide +kernel
theorem d_M_init_40 : decode c_M_init 40 = .ok (.aload_n 0, 1) := by decide +kernel
theorem d_M_init_41 : decode c_M_init 41 = .ok (.bipush (20), 2) := by decide +kernel
theorem d_M_init_43 : decode c_M_init 43 = .ok (.newarray .int, 2) := by decide +kernel
theorem d_M_init_45 : decode c_M_init 45 = .ok (.putfield 25, 3) := by decide +kernel
theorem d_M_init_48 : decode c_M_init 48 = .ok (.aload_n 0, 1) := by decide +kernel
theorem d_M_init_49 : decode c_M_init 49 = .ok (.iconst 4, 1) := by decide +kernel
theorem d_M_init_50 : decode c_M_init 50 = .ok (.newarray .int, 2) := by decide +kernel
theorem d_M_init_52 : decode c_M_init 52 = .ok (.putfield 28, 3) := by decide +kernel
theorem d_M_init_55 : decode c_M_init 55 = .ok (.aload_n 0, 1) := by decide +kernel
theorem d_M_init_56 : decode c_M_init 56 = .ok (.iconst 4, 1) := by decide +kernel
theorem d_M_init_57 : decode c_M_init 57 = .ok (.newarray .int, 2) := by decide +kernel
theorem d_M_init_59 : decode c_M_init 59 = .ok (.putfield 31, 3) := by decide +kernel
theorem d_M_init_62 : decode c_M_init 62 = .ok (.aload_n 0, 1) := by decide +kernel
theorem d_M_init_63 : decode c_M_init 63 = .ok (.iconst 4, 1) := by decide +kernel
theorem d_M_init_64 : decode c_M_init 64 = .ok (.newarray .int, 2) := by decide +kernel
theorem d_M_init_66 : decode c_M_init 66 = .ok (.putfield 34, 3) := by decide +kernel
theorem d_M_init_69 : decode c_M_init 69 = .ok (.aload_n 0, 1) := by decide +kernel
theorem d_M_init_70 : decode c_M_init 70 = .ok (.bipush (16), 2) := by decide +kernel
theorem d_M_init_72 : decode c_M_init 72 = .ok (.newarray .int, 2) := by decide +kernel
theorem d_M_init_74 : decode c_M_init 74 = .ok (.putfield 37, 3) := by decide +kernel
theorem d_M_init_77 : decode c_M_init 77 = .ok (.aload_n 0, 1) := by decide +kernel
theorem d_M_init_78 : decode c_M_init 78 = .ok (.bipush (16), 2) := by decide +kernel
theorem d_M_init_80 : decode c_M_init 80 = .ok (.newarray .int, 2) := by decide +kernel
theorem d_M_init_82 : decode c_M_init 82 = .ok (.putfield 40, 3) := by decide +kernel
theorem d_M_init_85 : decode c_M_init 85 = .ok (.aload_n 0, 1) := by decide +kernel
theorem d_M_init_86 : decode c_M_init 86 = .ok (.iconst 4, 1) := by decide +kernel
theorem d_M_init_87 : decode c_M_init 87 = .ok (.newarray .int, 2) := by decide +kernel
theorem d_M_init_89 : decode c_M_init 89 = .ok (.dup, 1) := by decide +kernel
theorem d_M_init_90 : decode c_M_init 90 = .ok (.iconst 0, 1) := by decide +kernel
theorem d_M_init_91 : decode c_M_init 91 = .ok (.iconst (-1), 1) := by decide +kernel
theorem d_M_init_92 : decode c_M_init 92 = .ok (.iastore, 1) := by decide +kernel
theorem d_M_init_93 : decode c_M_init 93 = .ok (.dup, 1) := by decide +kernel
theorem d_M_init_94 : decode c_M_init 94 = .ok (.iconst 1, 1) := by decide +kernel
theorem d_M_init_95 : decode c_M_init 95 = .ok (.iconst (-1), 1) := by decide +kernel
theorem d_M_init_96 : decode c_M_init 96 = .ok (.iastore, 1) := by decide +kernel
theorem d_M_init_97 : decode c_M_init 97 = .ok (.dup, 1) := by decide +kernel
theorem d_M_init_98 : decode c_M_init 98 = .ok (.iconst 2, 1) := by decide +kernel
theorem d_M_init_99 : decode c_M_init 99 = .ok (.iconst (-1), 1) := by decide +kernel
theorem d_M_init_100 : decode c_M_init 100 = .ok (.iastore, 1) := by decide +kernel
theorem d_M_init_101 : decode c_M_init 101 = .ok (.dup, 1) := by decide +kernel
theorem d_M_init_102 : decode c_M_init 102 = .ok (.iconst 3, 1) := by decide +kernel
theorem d_M_init_103 : decode c_M_init 103 = .ok (.iconst (-1), 1) := by decide +kernel
theorem d_M_init_104 : decode c_M_init 104 = .ok (.iastore, 1) := by decide +kernel
theorem d_M_init_105 : decode c_M_init 105 = .ok (.putfield 43, 3) := by decide +kernel
theorem d_M_init_108 : decode c_M_init 108 = .ok (.aload_n 0, 1) := by decide +kernel
theorem d_M_init_109 : decode c_M_init 109 = .ok (.bipush (20), 2) := by decide +kernel
theorem d_M_init_111 : decode c_M_init 111 = .ok (.newarray .int, 2) := by decide +kernel
theorem d_M_init_113 : decode c_M_init 113 = .ok (.putfield 46, 3) := by decide +kernel
theorem d_M_init_116 : decode c_M_init 116 = .ok (.aload_n 0, 1) := by decide +kernel
theorem d_M_init_117 : decode c_M_init 117 = .ok (.iconst 5, 1) := by decide +kernel
theorem d_M_init_118 : decode c_M_init 118 = .ok (.newarray .int, 2) := by decide +kernel
theorem d_M_init_120 : decode c_M_init 120 = .ok (.putfield 49, 3) := by decide +kernel
theorem d_M_init_123 : decode c_M_init 123 = .ok (.aload_n 0, 1) := by decide +kernel
theorem d_M_init_124 : decode c_M_init 124 = .ok (.sipush (2048), 3) := by decide +kernel
theorem d_M_init_127 : decode c_M_init 127 = .ok (.newarray .boolean, 2) := by decide +kernel
theorem d_M_init_129 : decode c_M_init 129 = .ok (.putfield 52, 3) := by decide +kernel
theorem d_M_init_132 : decode c_M_init 132 = .ok (.return_, 1) := by decide +kernel
theorem d_M_thrown_0 : decode c_M_thrown 0 = .ok (.aload_n 0, 1) := by decide +kernel
theorem d_M_thrown_1 : decode c_M_thrown 1 = .ok (.getfield 56, 3) := by decide +kernel
theorem d_M_thrown_4 : decode c_M_thrown 4 = .ok (.ireturn, 1) := by decide +kernel
theorem d_M_throwing_0 : decode c_M_throwing 0 = .ok (.aload_n 0, 1) := by decide +kernel
theorem d_M_throwing_1 : decode c_M_throwing 1 = .ok (.iload_n 1, 1) := by decide +kernel
theorem d_M_throwing_2 : decode c_M_throwing 2 = .ok (.ifCond .eq (7), 3) := by decide +kernel
theorem d_M_throwing_5 : decode c_M_throwing 5 = .ok (.iconst 1, 1) := by decide +kernel
theorem d_M_throwing_6 : decode c_M_throwing 6 = .ok (.goto (20), 3) := by decide +kernel
theorem d_M_throwing_9 : decode c_M_throwing 9 = .ok (.iload_n 2, 1) := by decide +kernel
theorem d_M_throwing_10 : decode c_M_throwing 10 = .ok (.ifCond .eq (7), 3) := by decide +kernel
theorem d_M_throwing_13 : decode c_M_throwing 13 = .ok (.iconst 2, 1) := by decide +kernel
theorem d_M_throwing_14 : decode c_M_throwing 14 = .ok (.goto (12), 3) := by decide +kernel
theorem d_M_throwing_17 : decode c_M_throwing 17 = .ok (.iload_n 3, 1) := by decide +kernel
theorem d_M_throwing_18 : decode c_M_throwing 18 = .ok (.ifCond .eq (7), 3) := by decide +kernel
theorem d_M_throwing_21 : decode c_M_throwing 21 = .ok (.iconst 3, 1) := by decide +kernel
theorem d_M_throwing_22 : decode c_M_throwing 22 = .ok (.goto (4), 3) := by decide +kernel
theorem d_M_throwing_25 : decode c_M_throwing 25 = .ok (.iconst 0, 1) := by decide +kernel
theorem d_M_throwing_26 : decode c_M_throwing 26 = .ok (.putfield 56, 3) := by decide +kernel
theorem d_M_throwing_29 : decode c_M_throwing 29 = .ok (.aload_n 0, 1) := by decide +kernel
theorem d_M_throwing_30 : decode c_M_throwing 30 = .ok (.getfield 56, 3) := by decide +kernel
theorem d_M_throwing_33 : decode c_M_throwing 33 = .ok (.ifCond .le (7), 3) := by decide +kernel
theorem d_M_throwing_36 : decode c_M_throwing 36 = .ok (.iconst 1, 1) := by decide +kernel
theorem d_M_throwing_37 : decode c_M_throwing 37 = .ok (.goto (4), 3) := by decide +kernel
theorem d_M_throwing_40 : decode c_M_throwing 40 = .ok (.iconst 0, 1) := by decide +kernel
theorem d_M_throwing_41 : decode c_M_throwing 41 = .ok (.ireturn, 1) := by decide +kernel
theorem d_M_in_0 : decode c_M_in 0 = .ok (.lload_n 0, 1) := by decide +kernel
theorem d_M_in_1 : decode c_M_in 1 = .ok (.lload_n 2, 1) := by decide +kernel
theorem d_M_in_2 : decode c_M_in 2 = .ok (.lcmp, 1) := by decide +kernel
theorem d_M_in_3 : decode c_M_in 3 = .ok (.ifCond .lt (14), 3) := by decide +kernel
theorem d_M_in_6 : decode c_M_in 6 = .ok (.lload_n 0, 1) := by decide +kernel
theorem d_M_in_7 : decode c_M_in 7 = .ok (.lload 4, 2) := by decide +kernel
theorem d_M_in_9 : decode c_M_in 9 = .ok (.lcmp, 1) := by decide +kernel
theorem d_M_in_10 : decode c_M_in 10 = .ok (.ifCond .gt (7), 3) := by decide +kernel
theorem d_M_in_13 : decode c_M_in 13 = .ok (.iconst 1, 1) := by decide +kernel
theorem d_M_in_14 : decode c_M_in 14 = .ok (.goto (4), 3) := by decide +kernel
theorem d_M_in_17 : decode c_M_in 17 = .ok (.iconst 0, 1) := by decide +kernel
theorem d_M_in_18 : decode c_M_in 18 = .ok (.ireturn, 1) := by decide +kernel
theorem d_M_isGood_0 : decode c_M_isGood 0 = .ok (.iload_n 1, 1) := by decide +kernel
theorem d_M_isGood_1 : decode c_M_isGood 1 = .ok (.i2l, 1) := by decide +kernel
theorem d_M_isGood_2 : decode c_M_isGood 2 = .ok (.lconst 0, 1) := by decide +kernel
theorem d_M_isGood_3 : decode c_M_isGood 3 = .ok (.aload_n 0, 1) := by decide +kernel
theorem d_M_isGood_4 : decode c_M_isGood 4 = .ok (.getfield 60, 3) := by decide +kernel
theorem d_M_isGood_7 : decode c_M_isGood 7 = .ok (.iconst 1, 1) := by decide +kernel
theorem d_M_isGood_8 : decode c_M_isGood 8 = .ok (.isub, 1) := by decide +kernel
theorem d_M_isGood_9 : decode c_M_isGood 9 = .ok (.i2l, 1) := by decide +kernel
theorem d_M_isGood_10 : decode c_M_isGood 10 = .ok (.invokestatic 63, 3) := by decide +kernel
theorem d_M_isGood_13 : decode c_M_isGood 13 = .ok (.ireturn, 1) := by decide +kernel
theorem d_M_isHeat_0 : decode c_M_isHeat 0 = .ok (.iload_n 1, 1) := by decide +kernel
theorem d_M_isHeat_1 : decode c_M_isHeat 1 = .ok (.i2l, 1) := by decide +kernel
theorem d_M_isHeat_2 : decode c_M_isHeat 2 = .ok (.lconst 0, 1) := by decide +kernel
theorem d_M_isHeat_3 : decode c_M_isHeat 3 = .ok (.aload_n 0, 1) := by decide +kernel
theorem d_M_isHeat_4 : decode c_M_isHeat 4 = .ok (.getfield 67, 3) := by decide +kernel
theorem d_M_isHeat_7 : decode c_M_isHeat 7 = .ok (.iconst 1, 1) := by decide +kernel
theorem d_M_isHeat_8 : decode c_M_isHeat 8 = .ok (.isub, 1) := by decide +kernel
theorem d_M_isHeat_9 : decode c_M_isHeat 9 = .ok (.i2l, 1) := by decide +kernel
theorem d_M_isHeat_10 : decode c_M_isHeat 10 = .ok (.invokestatic 63, 3) := by decide +kernel
theorem d_M_isHeat_13 : decode c_M_isHeat 13 = .ok (.ireturn, 1) := by decide +kernel
theorem d_M_good_0 : decode c_M_good 0 = .ok (.aload_n 0, 1) := by decide +kernel
theorem d_M_good_1 : decode c_M_good 1 = .ok (.aload_n 0, 1) := by decide +kernel
theorem d_M_good_2 : decode c_M_good 2 = .ok (.getfield 60, 3) := by decide +kernel
theorem d_M_good_5 : decode c_M_good 5 = .ok (.iconst 5, 1) := by decide +kernel
theorem d_M_good_6 : decode c_M_good 6 = .ok (.if_icmp .ne (7), 3) := by decide +kernel
theorem d_M_good_9 : decode c_M_good 9 = .ok (.iconst 1, 1) := by decide +kernel
theorem d_M_good_10 : decode c_M_good 10 = .ok (.goto (4), 3) := by decide +kernel
theorem d_M_good_13 : decode c_M_good 13 = .ok (.iconst 0, 1) := by decide +kernel
theorem d_M_good_14 : decode c_M_good 14 = .ok (.iload_n 1, 1) := by decide +kernel
theorem d_M_good_15 : decode c_M_good 15 = .ok (.i2l, 1) := by decide +kernel
theorem d_M_good_16 : decode c_M_good 16 = .ok (.lconst 1, 1) := by decide +kernel
theorem d_M_good_17 : decode c_M_good 17 = .ok (.ldc2_w 70, 3) := by decide +kernel
theorem d_M_good_20 : decode c_M_good 20 = .ok (.invokestatic 63, 3) := by decide +kernel
theorem d_M_good_23 : decode c_M_good 23 = .ok (.ifCond .eq (27), 3) := by decide +kernel
theorem d_M_good_26 : decode c_M_good 26 = .ok (.iload_n 2, 1) := by decide +kernel
theorem d_M_good_27 : decode c_M_good 27 = .ok (.i2l, 1) := by decide +kernel
theorem d_M_good_28 : decode c_M_good 28 = .ok (.lconst 0, 1) := by decide +kernel
theorem d_M_good_29 : decode c_M_good 29 = .ok (.ldc2_w 72, 3) := by decide +kernel
theorem d_M_good_32 : decode c_M_good 32 = .ok (.invokestatic 63, 3) := by decide +kernel
theorem d_M_good_35 : decode c_M_good 35 = .ok (.ifCond .eq (15), 3) := by decide +kernel
theorem d_M_good_38 : decode c_M_good 38 = .ok (.iload_n 3, 1) := by decide +kernel
theorem d_M_good_39 : decode c_M_good 39 = .ok (.i2l, 1) := by decide +kernel
theorem d_M_good_40 : decode c_M_good 40 = .ok (.lconst 0, 1) := by decide +kernel
theorem d_M_good_41 : decode c_M_good 41 = .ok (.ldc2_w 74, 3) := by decide +kernel
theorem d_M_good_44 : decode c_M_good 44 = .ok (.invokestatic 63, 3) := by decide +kernel
theorem d_M_good_47 : decode c_M_good 47 = .ok (.ifCond .ne (7), 3) := by decide +kernel
theorem d_M_good_50 : decode c_M_good 50 = .ok (.iconst 1, 1) := by decide +kernel
theorem d_M_good_51 : decode c_M_good 51 = .ok (.goto (4), 3) := by decide +kernel
theorem d_M_good_54 : decode c_M_good 54 = .ok (.iconst 0, 1) := by decide +kernel
theorem d_M_good_55 : decode c_M_good 55 = .ok (.iconst 0, 1) := by decide +kernel
theorem d_M_good_56 : decode c_M_good 56 = .ok (.invokevirtual 76, 3) := by decide +kernel
theorem d_M_good_59 : decode c_M_good 59 = .ok (.ifCond .eq (5), 3) := by decide +kernel
theorem d_M_good_62 : decode c_M_good 62 = .ok (.iconst 0, 1) := by decide +kernel
theorem d_M_good_63 : decode c_M_good 63 = .ok (.ireturn, 1) := by decide +kernel
theorem d_M_good_64 : decode c_M_good 64 = .ok (.aload_n 0, 1) := by decide +kernel
theorem d_M_good_65 : decode c_M_good 65 = .ok (.getfield 7, 3) := by decide +kernel
theorem d_M_good_68 : decode c_M_good 68 = .ok (.aload_n 0, 1) := by decide +kernel
theorem d_M_good_69 : decode c_M_good 69 = .ok (.getfield 60, 3) := by decide +kernel
theorem d_M_good_72 : decode c_M_good 72 = .ok (.iload_n 1, 1) := by decide +kernel
theorem d_M_good_73 : decode c_M_good 73 = .ok (.iastore, 1) := by decide +kernel
theorem d_M_good_74 : decode c_M_good 74 = .ok (.aload_n 0, 1) := by decide +kernel
theorem d_M_good_75 : decode c_M_good 75 = .ok (.getfield 13, 3) := by decide +kernel
theorem d_M_good_78 : decode c_M_good 78 = .ok (.aload_n 0, 1) := by decide +kernel
theorem d_M_good_79 : decode c_M_good 79 = .ok (.getfield 60, 3) := by decide +kernel
theorem d_M_good_82 : decode c_M_good 82 = .ok (.iload_n 2, 1) := by decide +kernel
theorem d_M_good_83 : decode c_M_good 83 = .ok (.iastore, 1) := by decide +kernel
theorem d_M_good_84 : decode c_M_good 84 = .ok (.aload_n 0, 1) := by decide +kernel
theorem d_M_good_85 : decode c_M_good 85 = .ok (.getfield 16, 3) := by decide +kernel
theorem d_M_good_88 : decode c_M_good 88 = .ok (.aload_n 0, 1) := by decide +kernel
theorem d_M_good_89 : decode c_M_good 89 = .ok (.getfield 60, 3) := by decide +kernel
theorem d_M_good_92 : decode c_M_good 92 = .ok (.iload_n 3, 1) := by decide +kernel
theorem d_M_good_93 : decode c_M_good 93 = .ok (.iastore, 1) := by decide +kernel
theorem d_M_good_94 : decode c_M_good 94 = .ok (.aload_n 0, 1) := by decide +kernel
theorem d_M_good_95 : decode c_M_good 95 = .ok (.getfield 19, 3) := by decide +kernel
theorem d_M_good_98 : decode c_M_good 98 = .ok (.aload_n 0, 1) := by decide +kernel
theorem d_M_good_99 : decode c_M_good 99 = .ok (.getfield 60, 3) := by decide +kernel
theorem d_M_good_102 : decode c_M_good 102 = .ok (.bipush (6), 2) := by decide +kernel
theorem d_M_good_104 : decode c_M_good 104 = .ok (.iastore, 1) := by decide +kernel
theorem d_M_good_105 : decode c_M_good 105 = .ok (.aload_n 0, 1) := by decide +kernel
theorem d_M_good_106 : decode c_M_good 106 = .ok (.dup, 1) := by decide +kernel
theorem d_M_good_107 : decode c_M_good 107 = .ok (.getfield 60, 3) := by decide +kernel
theorem d_M_good_110 : decode c_M_good 110 = .ok (.iconst 1, 1) := by decide +kernel
theorem d_M_good_111 : decode c_M_good 111 = .ok (.iadd, 1) := by decide +kernel
theorem d_M_good_112 : decode c_M_good 112 = .ok (.putfield 60, 3) := by decide +kernel
theorem d_M_good_115 : decode c_M_good 115 = .ok (.aload_n 0, 1) := by decide +kernel
theorem d_M_good_116 : decode c_M_good 116 = .ok (.getfield 60, 3) := by decide +kernel
theorem d_M_good_119 : decode c_M_good 119 = .ok (.iconst 1, 1) := by decide +kernel
theorem d_M_good_120 : decode c_M_good 120 = .ok (.isub, 1) := by decide +kernel
theorem d_M_good_121 : decode c_M_good 121 = .ok (.ireturn, 1) := by decide +kernel
theorem d_M_isSpan_0 : decode c_M_isSpan 0 = .ok (.iload_n 0, 1) := by decide +kernel
theorem d_M_isSpan_1 : decode c_M_isSpan 1 = .ok (.i2l, 1) := by decide +kernel
theorem d_M_isSpan_2 : decode c_M_isSpan 2 = .ok (.lconst 0, 1) := by decide +kernel
theorem d_M_isSpan_3 : decode c_M_isSpan 3 = .ok (.ldc2_w 80, 3) := by decide +kernel
theorem d_M_isSpan_6 : decode c_M_isSpan 6 = .ok (.invokestatic 63, 3) := by decide +kernel
theorem d_M_isSpan_9 : decode c_M_isSpan 9 = .ok (.ifCond .eq (20), 3) := by decide +kernel
theorem d_M_isSpan_12 : decode c_M_isSpan 12 = .ok (.iload_n 1, 1) := by decide +kernel
theorem d_M_isSpan_13 : decode c_M_isSpan 13 = .ok (.i2l, 1) := by decide +kernel
theorem d_M_isSpan_14 : decode c_M_isSpan 14 = .ok (.iload_n 0, 1) := by decide +kernel
theorem d_M_isSpan_15 : decode c_M_isSpan 15 = .ok (.i2l, 1) := by decide +kernel
theorem d_M_isSpan_16 : decode c_M_isSpan 16 = .ok (.ldc2_w 80, 3) := by decide +kernel
theorem d_M_isSpan_19 : decode c_M_isSpan 19 = .ok (.invokestatic 63, 3) := by decide +kernel
theorem d_M_isSpan_22 : decode c_M_isSpan 22 = .ok (.ifCond .eq (7), 3) := by decide +kernel
theorem d_M_isSpan_25 : decode c_M_isSpan 25 = .ok (.iconst 1, 1) := by decide +kernel
theorem d_M_isSpan_26 : decode c_M_isSpan 26 = .ok (.goto (4), 3) := by decide +kernel
theorem d_M_isSpan_29 : decode c_M_isSpan 29 = .ok (.iconst 0, 1) := by decide +kernel
theorem d_M_isSpan_30 : decode c_M_isSpan 30 = .ok (.ireturn, 1) := by decide +kernel
theorem d_M_element_0 : decode c_M_element 0 = .ok (.aload_n 0, 1) := by decide +kernel
theorem d_M_element_1 : decode c_M_element 1 = .ok (.aload_n 0, 1) := by decide +kernel
theorem d_M_element_2 : decode c_M_element 2 = .ok (.iload_n 1, 1) := by decide +kernel
theorem d_M_element_3 : decode c_M_element 3 = .ok (.invokevirtual 82, 3) := by decide +kernel
theorem d_M_element_6 : decode c_M_element 6 = .ok (.ifCond .eq (15), 3) := by decide +kernel
theorem d_M_element_9 : decode c_M_element 9 = .ok (.iload_n 2, 1) := by decide +kernel
theorem d_M_element_10 : decode c_M_element 10 = .ok (.i2l, 1) := by decide +kernel
theorem d_M_element_11 : decode c_M_element 11 = .ok (.lconst 0, 1) := by decide +kernel
theorem d_M_element_12 : decode c_M_element 12 = .ok (.ldc2_w 86, 3) := by decide +kernel
theorem d_M_element_15 : decode c_M_element 15 = .ok (.invokestatic 63, 3) := by decide +kernel
theorem d_M_element_18 : decode c_M_element 18 = .ok (.ifCond .ne (7), 3) := by decide +kernel
theorem d_M_element_21 : decode c_M_element 21 = .ok (.iconst 1, 1) := by decide +kernel
theorem d_M_element_22 : decode c_M_element 22 = .ok (.goto (4), 3) := by decide +kernel
theorem d_M_element_25 : decode c_M_element 25 = .ok (.iconst 0, 1) := by decide +kernel
theorem d_M_element_26 : decode c_M_element 26 = .ok (.iload_n 3, 1) := by decide +kernel
theorem d_M_element_27 : decode c_M_element 27 = .ok (.iload 4, 2) := by decide +kernel
theorem d_M_element_29 : decode c_M_element 29 = .ok (.invokestatic 88, 3) := by decide +kernel
theorem d_M_element_32 : decode c_M_element 32 = .ok (.ifCond .ne (7), 3) := by decide +kernel
theorem d_M_element_35 : decode c_M_element 35 = .ok (.iconst 1, 1) := by decide +kernel
theorem d_M_element_36 : decode c_M_element 36 = .ok (.goto (4), 3) := by decide +kernel
theorem d_M_element_39 : decode c_M_element 39 = .ok (.iconst 0, 1) := by decide +kernel
theorem d_M_element_40 : decode c_M_element 40 = .ok (.iconst 0, 1) := by decide +kernel
theorem d_M_element_41 : decode c_M_element 41 = .ok (.invokevirtual 76, 3) := by decide +kernel
theorem d_M_element_44 : decode c_M_element 44 = .ok (.ifCond .eq (4), 3) := by decide +kernel
theorem d_M_element_47 : decode c_M_element 47 = .ok (.return_, 1) := by decide +kernel
theorem d_M_element_48 : decode c_M_element 48 = .ok (.aload_n 0, 1) := by decide +kernel
theorem d_M_element_49 : decode c_M_element 49 = .ok (.getfield 22, 3) := by decide +kernel
theorem d_M_element_52 : decode c_M_element 52 = .ok (.iconst 4, 1) := by decide +kernel
theorem d_M_element_53 : decode c_M_element 53 = .ok (.iload_n 1, 1) := by decide +kernel
theorem d_M_element_54 : decode c_M_element 54 = .ok (.imul, 1) := by decide +kernel
theorem d_M_element_55 : decode c_M_element 55 = .ok (.iload_n 2, 1) := by decide +kernel
theorem d_M_element_56 : decode c_M_element 56 = .ok (.iadd, 1) := by decide +kernel
theorem d_M_element_57 : decode c_M_element 57 = .ok (.iload_n 3, 1) := by decide +kernel
theorem d_M_element_58 : decode c_M_element 58 = .ok (.iastore, 1) := by decide +kernel
theorem d_M_element_59 : decode c_M_element 59 = .ok (.aload_n 0, 1) := by decide +kernel
theorem d_M_element_60 : decode c_M_element 60 = .ok (.getfield 25, 3) := by decide +kernel
theorem d_M_element_63 : decode c_M_element 63 = .ok (.iconst 4, 1) := by decide +kernel
theorem d_M_element_64 : decode c_M_element 64 = .ok (.iload_n 1, 1) := by decide +kernel
theorem d_M_element_65 : decode c_M_element 65 = .ok (.imul, 1) := by decide +kernel
theorem d_M_element_66 : decode c_M_element 66 = .ok (.iload_n 2, 1) := by decide +kernel
theorem d_M_element_67 : decode c_M_element 67 = .ok (.iadd, 1) := by decide +kernel
theorem d_M_element_68 : decode c_M_element 68 = .ok (.iload 4, 2) := by decide +kernel
theorem d_M_element_70 : decode c_M_element 70 = .ok (.iastore, 1) := by decide +kernel
theorem d_M_element_71 : decode c_M_element 71 = .ok (.return_, 1) := by decide +kernel
theorem d_M_limit_0 : decode c_M_limit 0 = .ok (.aload_n 0, 1) := by decide +kernel
theorem d_M_limit_1 : decode c_M_limit 1 = .ok (.aload_n 0, 1) := by decide +kernel
theorem d_M_limit_2 : decode c_M_limit 2 = .ok (.iload_n 1, 1) := by decide +kernel
theorem d_M_limit_3 : decode c_M_limit 3 = .ok (.invokevirtual 82, 3) := by decide +kernel
theorem d_M_limit_6 : decode c_M_limit 6 = .ok (.ifCond .ne (7), 3) := by decide +kernel
theorem d_M_limit_9 : decode c_M_limit 9 = .ok (.iconst 1, 1) := by decide +kernel
theorem d_M_limit_10 : decode c_M_limit 10 = .ok (.goto (4), 3) := by decide +kernel
theorem d_M_limit_13 : decode c_M_limit 13 = .ok (.iconst 0, 1) := by decide +kernel
theorem d_M_limit_14 : decode c_M_limit 14 = .ok (.iload_n 2, 1) := by decide +kernel
theorem d_M_limit_15 : decode c_M_limit 15 = .ok (.i2l, 1) := by decide +kernel
theorem d_M_limit_16 : decode c_M_limit 16 = .ok (.lconst 0, 1) := by decide +kernel
theorem d_M_limit_17 : decode c_M_limit 17 = .ok (.ldc2_w 74, 3) := by decide +kernel
theorem d_M_limit_20 : decode c_M_limit 20 = .ok (.invokestatic 63, 3) := by decide +kernel
theorem d_M_limit_23 : decode c_M_limit 23 = .ok (.ifCond .ne (7), 3) := by decide +kernel
theorem d_M_limit_26 : decode c_M_limit 26 = .ok (.iconst 1, 1) := by decide +kernel
theorem d_M_limit_27 : decode c_M_limit 27 = .ok (.goto (4), 3) := by decide +kernel
theorem d_M_limit_30 : decode c_M_limit 30 = .ok (.iconst 0, 1) := by decide +kernel
theorem d_M_limit_31 : decode c_M_limit 31 = .ok (.iconst 0, 1) := by decide +kernel
theorem d_M_limit_32 : decode c_M_limit 32 = .ok (.invokevirtual 76, 3) := by decide +kernel
theorem d_M_limit_35 : decode c_M_limit 35 = .ok (.ifCond .eq (4), 3) := by decide +kernel
theorem d_M_limit_38 : decode c_M_limit 38 = .ok (.return_, 1) := by decide +kernel
theorem d_M_limit_39 : decode c_M_limit 39 = .ok (.aload_n 0, 1) := by decide +kernel
theorem d_M_limit_40 : decode c_M_limit 40 = .ok (.getfield 19, 3) := by decide +kernel
theorem d_M_limit_43 : decode c_M_limit 43 = .ok (.iload_n 1, 1) := by decide +kernel
theorem d_M_limit_44 : decode c_M_limit 44 = .ok (.iload_n 2, 1) := by decide +kernel
theorem d_M_limit_45 : decode c_M_limit 45 = .ok (.iastore, 1) := by decide +kernel
theorem d_M_limit_46 : decode c_M_limit 46 = .ok (.return_, 1) := by decide +kernel
theorem d_M_arrive_0 : decode c_M_arrive 0 = .ok (.aload_n 0, 1) := by decide +kernel
theorem d_M_arrive_1 : decode c_M_arrive 1 = .ok (.iload_n 1, 1) := by decide +kernel
theorem d_M_arrive_2 : decode c_M_arrive 2 = .ok (.invokevirtual 82, 3) := by decide +kernel
theorem d_M_arrive_5 : decode c_M_arrive 5 = .ok (.ifCond .ne (7), 3) := by decide +kernel
theorem d_M_arrive_8 : decode c_M_arrive 8 = .ok (.iconst 1, 1) := by decide +kernel
theorem d_M_arrive_9 : decode c_M_arrive 9 = .ok (.goto (4), 3) := by decide +kernel
theorem d_M_arrive_12 : decode c_M_arrive 12 = .ok (.iconst 0, 1) := by decide +kernel
theorem d_M_arrive_13 : decode c_M_arrive 13 = .ok (.istore_n 3, 1) := by decide +kernel
theorem d_M_arrive_14 : decode c_M_arrive 14 = .ok (.aload_n 0, 1) := by decide +kernel
theorem d_M_arrive_15 : decode c_M_arrive 15 = .ok (.iload_n 3, 1) := by decide +kernel
theorem d_M_arrive_16 : decode c_M_arrive 16 = .ok (.iload_n 2, 1) := by decide +kernel
theorem d_M_arrive_17 : decode c_M_arrive 17 = .ok (.ifCond .ge (7), 3) := by decide +kernel
theorem d_M_arrive_20 : decode c_M_arrive 20 = .ok (.iconst 1, 1) := by decide +kernel
theorem d_M_arrive_21 : decode c_M_arrive 21 = .ok (.goto (4), 3) := by decide +kernel
theorem d_M_arrive_24 : decode c_M_arrive 24 = .ok (.iconst 0, 1) := by decide +kernel
theorem d_M_arrive_25 : decode c_M_arrive 25 = .ok (.iload_n 3, 1) := by decide +kernel
theorem d_M_arrive_26 : decode c_M_arrive 26 = .ok (.ifCond .ne (28), 3) := by decide +kernel
theorem d_M_arrive_29 : decode c_M_arrive 29 = .ok (.iload_n 2, 1) := by decide +kernel
theorem d_M_arrive_30 : decode c_M_arrive 30 = .ok (.bipush (6), 2) := by decide +kernel
theorem d_M_arrive_32 : decode c_M_arrive 32 = .ok (.aload_n 0, 1) := by decide +kernel
theorem d_M_arrive_33 : decode c_M_arrive 33 = .ok (.getfield 16, 3) := by decide +kernel
theorem d_M_arrive_36 : decode c_M_arrive 36 = .ok (.iload_n 3, 1) := by decide +kernel
theorem d_M_arrive_37 : decode c_M_arrive 37 = .ok (.ifCond .eq (7), 3) := by decide +kernel
theorem d_M_arrive_40 : decode c_M_arrive 40 = .ok (.iconst 0, 1) := by decide +kernel
theorem d_M_arrive_41 : decode c_M_arrive 41 = .ok (.goto (4), 3) := by decide +kernel
theorem d_M_arrive_44 : decode c_M_arrive 44 = .ok (.iload_n 1, 1) := by decide +kernel
theorem d_M_arrive_45 : decode c_M_arrive 45 = .ok (.iaload, 1) := by decide +kernel
theorem d_M_arrive_46 : decode c_M_arrive 46 = .ok (.isub, 1) := by decide +kernel
theorem d_M_arrive_47 : decode c_M_arrive 47 = .ok (.if_icmp .le (7), 3) := by decide +kernel
theorem d_M_arrive_50 : decode c_M_arrive 50 = .ok (.iconst 1, 1) := by decide +kernel
theorem d_M_arrive_51 : decode c_M_arrive 51 = .ok (.goto (4), 3) := by decide +kernel
theorem d_M_arrive_54 : decode c_M_arrive 54 = .ok (.iconst 0, 1) := by decide +kernel
theorem d_M_arrive_55 : decode c_M_arrive 55 = .ok (.invokevirtual 76, 3) := by decide +kernel
theorem d_M_arrive_58 : decode c_M_arrive 58 = .ok (.ifCond .eq (5), 3) := by decide +kernel
theorem d_M_arrive_61 : decode c_M_arrive 61 = .ok (.iconst 0, 1) := by decide +kernel
theorem d_M_arrive_62 : decode c_M_arrive 62 = .ok (.ireturn, 1) := by decide +kernel
theorem d_M_arrive_63 : decode c_M_arrive 63 = .ok (.aload_n 0, 1) := by decide +kernel
theorem d_M_arrive_64 : decode c_M_arrive 64 = .ok (.getfield 16, 3) := by decide +kernel
theorem d_M_arrive_67 : decode c_M_arrive 67 = .ok (.iload_n 1, 1) := by decide +kernel
theorem d_M_arrive_68 : decode c_M_arrive 68 = .ok (.dup2, 1) := by decide +kernel
theorem d_M_arrive_69 : decode c_M_arrive 69 = .ok (.iaload, 1) := by decide +kernel
theorem d_M_arrive_70 : decode c_M_arrive 70 = .ok (.iload_n 2, 1) := by decide +kernel
theorem d_M_arrive_71 : decode c_M_arrive 71 = .ok (.iadd, 1) := by decide +kernel
theorem d_M_arrive_72 : decode c_M_arrive 72 = .ok (.iastore, 1) := by decide +kernel
theorem d_M_arrive_73 : decode c_M_arrive 73 = .ok (.aload_n 0, 1) := by decide +kernel
theorem d_M_arrive_74 : decode c_M_arrive 74 = .ok (.getfield 16, 3) := by decide +kernel
theorem d_M_arrive_77 : decode c_M_arrive 77 = .ok (.iload_n 1, 1) := by decide +kernel
theorem d_M_arrive_78 : decode c_M_arrive 78 = .ok (.iaload, 1) := by decide +kernel
theorem d_M_arrive_79 : decode c_M_arrive 79 = .ok (.ireturn, 1) := by decide +kernel
theorem d_M_stock_0 : decode c_M_stock 0 = .ok (.aload_n 0, 1) := by decide +kernel
theorem d_M_stock_1 : decode c_M_stock 1 = .ok (.aload_n 0, 1) := by decide +kernel
theorem d_M_stock_2 : decode c_M_stock 2 = .ok (.iload_n 1, 1) := by decide +kernel
theorem d_M_stock_3 : decode c_M_stock 3 = .ok (.invokevirtual 82, 3) := by decide +kernel
theorem d_M_stock_6 : decode c_M_stock 6 = .ok (.ifCond .ne (7), 3) := by decide +kernel
theorem d_M_stock_9 : decode c_M_stock 9 = .ok (.iconst 1, 1) := by decide +kernel
theorem d_M_stock_10 : decode c_M_stock 10 = .ok (.goto (4), 3) := by decide +kernel
theorem d_M_stock_13 : decode c_M_stock 13 = .ok (.iconst 0, 1) := by decide +kernel
theorem d_M_stock_14 : decode c_M_stock 14 = .ok (.iconst 0, 1) := by decide +kernel
theorem d_M_stock_15 : decode c_M_stock 15 = .ok (.iconst 0, 1) := by decide +kernel
theorem d_M_stock_16 : decode c_M_stock 16 = .ok (.invokevirtual 76, 3) := by decide +kernel
theorem d_M_stock_19 : decode c_M_stock 19 = .ok (.ifCond .eq (5), 3) := by decide +kernel
theorem d_M_stock_22 : decode c_M_stock 22 = .ok (.iconst 0, 1) := by decide +kernel
theorem d_M_stock_23 : decode c_M_stock 23 = .ok (.ireturn, 1) := by decide +kernel
theorem d_M_stock_24 : decode c_M_stock 24 = .ok (.aload_n 0, 1) := by decide +kernel
theorem d_M_stock_25 : decode c_M_stock 25 = .ok (.getfield 16, 3) := by decide +kernel
theorem d_M_stock_28 : decode c_M_stock 28 = .ok (.iload_n 1, 1) := by decide +kernel
theorem d_M_stock_29 : decode c_M_stock 29 = .ok (.iaload, 1) := by decide +kernel
theorem d_M_stock_30 : decode c_M_stock 30 = .ok (.ireturn, 1) := by decide +kernel
theorem d_M_heat_0 : decode c_M_heat 0 = .ok (.aload_n 0, 1) := by decide +kernel
theorem d_M_heat_1 : decode c_M_heat 1 = .ok (.aload_n 0, 1) := by decide +kernel
theorem d_M_heat_2 : decode c_M_heat 2 = .ok (.getfield 67, 3) := by decide +kernel
theorem d_M_heat_5 : decode c_M_heat 5 = .ok (.iconst 4, 1) := by decide +kernel
theorem d_M_heat_6 : decode c_M_heat 6 = .ok (.if_icmp .ne (7), 3) := by decide +kernel
theorem d_M_heat_9 : decode c_M_heat 9 = .ok (.iconst 1, 1) := by decide +kernel
theorem d_M_heat_10 : decode c_M_heat 10 = .ok (.goto (4), 3) := by decide +kernel
theorem d_M_heat_13 : decode c_M_heat 13 = .ok (.iconst 0, 1) := by decide +kernel
theorem d_M_heat_14 : decode c_M_heat 14 = .ok (.iload_n 1, 1) := by decide +kernel
theorem d_M_heat_15 : decode c_M_heat 15 = .ok (.i2l, 1) := by decide +kernel
theorem d_M_heat_16 : decode c_M_heat 16 = .ok (.lconst 1, 1) := by decide +kernel
theorem d_M_heat_17 : decode c_M_heat 17 = .ok (.ldc2_w 72, 3) := by decide +kernel
theorem d_M_heat_20 : decode c_M_heat 20 = .ok (.invokestatic 63, 3) := by decide +kernel
theorem d_M_heat_23 : decode c_M_heat 23 = .ok (.ifCond .eq (16), 3) := by decide +kernel
theorem d_M_heat_26 : decode c_M_heat 26 = .ok (.iload_n 2, 1) := by decide +kernel
theorem d_M_heat_27 : decode c_M_heat 27 = .ok (.i2l, 1) := by decide +kernel
theorem d_M_heat_28 : decode c_M_heat 28 = .ok (.iload_n 1, 1) := by decide +kernel
theorem d_M_heat_29 : decode c_M_heat 29 = .ok (.i2l, 1) := by decide +kernel
theorem d_M_heat_30 : decode c_M_heat 30 = .ok (.ldc2_w 72, 3) := by decide +kernel
theorem d_M_heat_33 : decode c_M_heat 33 = .ok (.invokestatic 63, 3) := by decide +kernel
theorem d_M_heat_36 : decode c_M_heat 36 = .ok (.ifCond .ne (7), 3) := by decide +kernel
theorem d_M_heat_39 : decode c_M_heat 39 = .ok (.iconst 1, 1) := by decide +kernel
theorem d_M_heat_40 : decode c_M_heat 40 = .ok (.goto (4), 3) := by decide +kernel
theorem d_M_heat_43 : decode c_M_heat 43 = .ok (.iconst 0, 1) := by decide +kernel
theorem d_M_heat_44 : decode c_M_heat 44 = .ok (.iconst 0, 1) := by decide +kernel
theorem d_M_heat_45 : decode c_M_heat 45 = .ok (.invokevirtual 76, 3) := by decide +kernel
theorem d_M_heat_48 : decode c_M_heat 48 = .ok (.ifCond .eq (5), 3) := by decide +kernel
theorem d_M_heat_51 : decode c_M_heat 51 = .ok (.iconst 0, 1) := by decide +kernel
theorem d_M_heat_52 : decode c_M_heat 52 = .ok (.ireturn, 1) := by decide +kernel
theorem d_M_heat_53 : decode c_M_heat 53 = .ok (.aload_n 0, 1) := by decide +kernel
theorem d_M_heat_54 : decode c_M_heat 54 = .ok (.getfield 28, 3) := by decide +kernel
theorem d_M_heat_57 : decode c_M_heat 57 = .ok (.aload_n 0, 1) := by decide +kernel
theorem d_M_heat_58 : decode c_M_heat 58 = .ok (.getfield 67, 3) := by decide +kernel
theorem d_M_heat_61 : decode c_M_heat 61 = .ok (.iload_n 1, 1) := by decide +kernel
theorem d_M_heat_62 : decode c_M_heat 62 = .ok (.iastore, 1) := by decide +kernel
theorem d_M_heat_63 : decode c_M_heat 63 = .ok (.aload_n 0, 1) := by decide +kernel
theorem d_M_heat_64 : decode c_M_heat 64 = .ok (.getfield 31, 3) := by decide +kernel
theorem d_M_heat_67 : decode c_M_heat 67 = .ok (.aload_n 0, 1) := by decide +kernel
theorem d_M_heat_68 : decode c_M_heat 68 = .ok (.getfield 67, 3) := by decide +kernel
end
section
theorem d_M_heat_71 : decode c_M_heat 71 = .ok (.iload_n 2, 1) := by decide +kernel
theorem d_M_heat_72 : decode c_M_heat 72 = .ok (.iastore, 1) := by decide +kernel
theorem d_M_heat_73 : decode c_M_heat 73 = .ok (.aload_n 0, 1) := by decide +kernel
theorem d_M_heat_74 : decode c_M_heat 74 = .ok (.getfield 34, 3) := by decide +kernel
theorem d_M_heat_77 : decode c_M_heat 77 = .ok (.aload_n 0, 1) := by decide +kernel
theorem d_M_heat_78 : decode c_M_heat 78 = .ok (.getfield 67, 3) := by decide +kernel
theorem d_M_heat_81 : decode c_M_heat 81 = .ok (.bipush (30), 2) := by decide +kernel
theorem d_M_heat_83 : decode c_M_heat 83 = .ok (.iastore, 1) := by decide +kernel
theorem d_M_heat_84 : decode c_M_heat 84 = .ok (.iconst 0, 1) := by decide +kernel
theorem d_M_heat_85 : decode c_M_heat 85 = .ok (.istore_n 3, 1) := by decide +kernel
theorem d_M_heat_86 : decode c_M_heat 86 = .ok (.iload_n 3, 1) := by decide +kernel
theorem d_M_heat_87 : decode c_M_heat 87 = .ok (.iconst 4, 1) := by decide +kernel
theorem d_M_heat_88 : decode c_M_heat 88 = .ok (.if_icmp .ge (39), 3) := by decide +kernel
theorem d_M_heat_91 : decode c_M_heat 91 = .ok (.aload_n 0, 1) := by decide +kernel
theorem d_M_heat_92 : decode c_M_heat 92 = .ok (.getfield 37, 3) := by decide +kernel
theorem d_M_heat_95 : decode c_M_heat 95 = .ok (.iconst 4, 1) := by decide +kernel
theorem d_M_heat_96 : decode c_M_heat 96 = .ok (.aload_n 0, 1) := by decide +kernel
theorem d_M_heat_97 : decode c_M_heat 97 = .ok (.getfield 67, 3) := by decide +kernel
theorem d_M_heat_100 : decode c_M_heat 100 = .ok (.imul, 1) := by decide +kernel
theorem d_M_heat_101 : decode c_M_heat 101 = .ok (.iload_n 3, 1) := by decide +kernel
theorem d_M_heat_102 : decode c_M_heat 102 = .ok (.iadd, 1) := by decide +kernel
theorem d_M_heat_103 : decode c_M_heat 103 = .ok (.iconst 0, 1) := by decide +kernel
theorem d_M_heat_104 : decode c_M_heat 104 = .ok (.iastore, 1) := by decide +kernel
theorem d_M_heat_105 : decode c_M_heat 105 = .ok (.aload_n 0, 1) := by decide +kernel
theorem d_M_heat_106 : decode c_M_heat 106 = .ok (.getfield 40, 3) := by decide +kernel
theorem d_M_heat_109 : decode c_M_heat 109 = .ok (.iconst 4, 1) := by decide +kernel
theorem d_M_heat_110 : decode c_M_heat 110 = .ok (.aload_n 0, 1) := by decide +kernel
theorem d_M_heat_111 : decode c_M_heat 111 = .ok (.getfield 67, 3) := by decide +kernel
theorem d_M_heat_114 : decode c_M_heat 114 = .ok (.imul, 1) := by decide +kernel
theorem d_M_heat_115 : decode c_M_heat 115 = .ok (.iload_n 3, 1) := by decide +kernel
theorem d_M_heat_116 : decode c_M_heat 116 = .ok (.iadd, 1) := by decide +kernel
theorem d_M_heat_117 : decode c_M_heat 117 = .ok (.sipush (10000), 3) := by decide +kernel
theorem d_M_heat_120 : decode c_M_heat 120 = .ok (.iastore, 1) := by decide +kernel
theorem d_M_heat_121 : decode c_M_heat 121 = .ok (.iinc 3 (1), 3) := by decide +kernel
theorem d_M_heat_124 : decode c_M_heat 124 = .ok (.goto (-38), 3) := by decide +kernel
theorem d_M_heat_127 : decode c_M_heat 127 = .ok (.aload_n 0, 1) := by decide +kernel
theorem d_M_heat_128 : decode c_M_heat 128 = .ok (.dup, 1) := by decide +kernel
theorem d_M_heat_129 : decode c_M_heat 129 = .ok (.getfield 67, 3) := by decide +kernel
theorem d_M_heat_132 : decode c_M_heat 132 = .ok (.iconst 1, 1) := by decide +kernel
theorem d_M_heat_133 : decode c_M_heat 133 = .ok (.iadd, 1) := by decide +kernel
theorem d_M_heat_134 : decode c_M_heat 134 = .ok (.putfield 67, 3) := by decide +kernel
theorem d_M_heat_137 : decode c_M_heat 137 = .ok (.aload_n 0, 1) := by decide +kernel
theorem d_M_heat_138 : decode c_M_heat 138 = .ok (.getfield 67, 3) := by decide +kernel
theorem d_M_heat_141 : decode c_M_heat 141 = .ok (.iconst 1, 1) := by decide +kernel
theorem d_M_heat_142 : decode c_M_heat 142 = .ok (.isub, 1) := by decide +kernel
theorem d_M_heat_143 : decode c_M_heat 143 = .ok (.ireturn, 1) := by decide +kernel
theorem d_M_span_0 : decode c_M_span 0 = .ok (.aload_n 0, 1) := by decide +kernel
theorem d_M_span_1 : decode c_M_span 1 = .ok (.aload_n 0, 1) := by decide +kernel
theorem d_M_span_2 : decode c_M_span 2 = .ok (.iload_n 1, 1) := by decide +kernel
theorem d_M_span_3 : decode c_M_span 3 = .ok (.invokevirtual 92, 3) := by decide +kernel
theorem d_M_span_6 : decode c_M_span 6 = .ok (.ifCond .eq (15), 3) := by decide +kernel
theorem d_M_span_9 : decode c_M_span 9 = .ok (.iload_n 2, 1) := by decide +kernel
theorem d_M_span_10 : decode c_M_span 10 = .ok (.i2l, 1) := by decide +kernel
theorem d_M_span_11 : decode c_M_span 11 = .ok (.lconst 0, 1) := by decide +kernel
theorem d_M_span_12 : decode c_M_span 12 = .ok (.ldc2_w 86, 3) := by decide +kernel
theorem d_M_span_15 : decode c_M_span 15 = .ok (.invokestatic 63, 3) := by decide +kernel
theorem d_M_span_18 : decode c_M_span 18 = .ok (.ifCond .ne (7), 3) := by decide +kernel
theorem d_M_span_21 : decode c_M_span 21 = .ok (.iconst 1, 1) := by decide +kernel
theorem d_M_span_22 : decode c_M_span 22 = .ok (.goto (4), 3) := by decide +kernel
theorem d_M_span_25 : decode c_M_span 25 = .ok (.iconst 0, 1) := by decide +kernel
theorem d_M_span_26 : decode c_M_span 26 = .ok (.iload_n 3, 1) := by decide +kernel
theorem d_M_span_27 : decode c_M_span 27 = .ok (.iload 4, 2) := by decide +kernel
theorem d_M_span_29 : decode c_M_span 29 = .ok (.invokestatic 88, 3) := by decide +kernel
theorem d_M_span_32 : decode c_M_span 32 = .ok (.ifCond .ne (7), 3) := by decide +kernel
theorem d_M_span_35 : decode c_M_span 35 = .ok (.iconst 1, 1) := by decide +kernel
theorem d_M_span_36 : decode c_M_span 36 = .ok (.goto (4), 3) := by decide +kernel
theorem d_M_span_39 : decode c_M_span 39 = .ok (.iconst 0, 1) := by decide +kernel
theorem d_M_span_40 : decode c_M_span 40 = .ok (.iconst 0, 1) := by decide +kernel
theorem d_M_span_41 : decode c_M_span 41 = .ok (.invokevirtual 76, 3) := by decide +kernel
theorem d_M_span_44 : decode c_M_span 44 = .ok (.ifCond .eq (4), 3) := by decide +kernel
theorem d_M_span_47 : decode c_M_span 47 = .ok (.return_, 1) := by decide +kernel
theorem d_M_span_48 : decode c_M_span 48 = .ok (.aload_n 0, 1) := by decide +kernel
theorem d_M_span_49 : decode c_M_span 49 = .ok (.getfield 37, 3) := by decide +kernel
theorem d_M_span_52 : decode c_M_span 52 = .ok (.iconst 4, 1) := by decide +kernel
theorem d_M_span_53 : decode c_M_span 53 = .ok (.iload_n 1, 1) := by decide +kernel
theorem d_M_span_54 : decode c_M_span 54 = .ok (.imul, 1) := by decide +kernel
theorem d_M_span_55 : decode c_M_span 55 = .ok (.iload_n 2, 1) := by decide +kernel
theorem d_M_span_56 : decode c_M_span 56 = .ok (.iadd, 1) := by decide +kernel
theorem d_M_span_57 : decode c_M_span 57 = .ok (.iload_n 3, 1) := by decide +kernel
theorem d_M_span_58 : decode c_M_span 58 = .ok (.iastore, 1) := by decide +kernel
theorem d_M_span_59 : decode c_M_span 59 = .ok (.aload_n 0, 1) := by decide +kernel
theorem d_M_span_60 : decode c_M_span 60 = .ok (.getfield 40, 3) := by decide +kernel
theorem d_M_span_63 : decode c_M_span 63 = .ok (.iconst 4, 1) := by decide +kernel
theorem d_M_span_64 : decode c_M_span 64 = .ok (.iload_n 1, 1) := by decide +kernel
theorem d_M_span_65 : decode c_M_span 65 = .ok (.imul, 1) := by decide +kernel
theorem d_M_span_66 : decode c_M_span 66 = .ok (.iload_n 2, 1) := by decide +kernel
theorem d_M_span_67 : decode c_M_span 67 = .ok (.iadd, 1) := by decide +kernel
theorem d_M_span_68 : decode c_M_span 68 = .ok (.iload 4, 2) := by decide +kernel
theorem d_M_span_70 : decode c_M_span 70 = .ok (.iastore, 1) := by decide +kernel
theorem d_M_span_71 : decode c_M_span 71 = .ok (.return_, 1) := by decide +kernel
theorem d_M_most_0 : decode c_M_most 0 = .ok (.aload_n 0, 1) := by decide +kernel
theorem d_M_most_1 : decode c_M_most 1 = .ok (.aload_n 0, 1) := by decide +kernel
theorem d_M_most_2 : decode c_M_most 2 = .ok (.iload_n 1, 1) := by decide +kernel
theorem d_M_most_3 : decode c_M_most 3 = .ok (.invokevirtual 92, 3) := by decide +kernel
theorem d_M_most_6 : decode c_M_most 6 = .ok (.ifCond .ne (7), 3) := by decide +kernel
theorem d_M_most_9 : decode c_M_most 9 = .ok (.iconst 1, 1) := by decide +kernel
theorem d_M_most_10 : decode c_M_most 10 = .ok (.goto (4), 3) := by decide +kernel
theorem d_M_most_13 : decode c_M_most 13 = .ok (.iconst 0, 1) := by decide +kernel
theorem d_M_most_14 : decode c_M_most 14 = .ok (.iload_n 2, 1) := by decide +kernel
theorem d_M_most_15 : decode c_M_most 15 = .ok (.i2l, 1) := by decide +kernel
theorem d_M_most_16 : decode c_M_most 16 = .ok (.lconst 0, 1) := by decide +kernel
theorem d_M_most_17 : decode c_M_most 17 = .ok (.ldc2_w 95, 3) := by decide +kernel
theorem d_M_most_20 : decode c_M_most 20 = .ok (.invokestatic 63, 3) := by decide +kernel
theorem d_M_most_23 : decode c_M_most 23 = .ok (.ifCond .ne (7), 3) := by decide +kernel
theorem d_M_most_26 : decode c_M_most 26 = .ok (.iconst 1, 1) := by decide +kernel
theorem d_M_most_27 : decode c_M_most 27 = .ok (.goto (4), 3) := by decide +kernel
theorem d_M_most_30 : decode c_M_most 30 = .ok (.iconst 0, 1) := by decide +kernel
theorem d_M_most_31 : decode c_M_most 31 = .ok (.iconst 0, 1) := by decide +kernel
theorem d_M_most_32 : decode c_M_most 32 = .ok (.invokevirtual 76, 3) := by decide +kernel
theorem d_M_most_35 : decode c_M_most 35 = .ok (.ifCond .eq (4), 3) := by decide +kernel
theorem d_M_most_38 : decode c_M_most 38 = .ok (.return_, 1) := by decide +kernel
theorem d_M_most_39 : decode c_M_most 39 = .ok (.aload_n 0, 1) := by decide +kernel
theorem d_M_most_40 : decode c_M_most 40 = .ok (.getfield 34, 3) := by decide +kernel
theorem d_M_most_43 : decode c_M_most 43 = .ok (.iload_n 1, 1) := by decide +kernel
theorem d_M_most_44 : decode c_M_most 44 = .ok (.iload_n 2, 1) := by decide +kernel
theorem d_M_most_45 : decode c_M_most 45 = .ok (.iastore, 1) := by decide +kernel
theorem d_M_most_46 : decode c_M_most 46 = .ok (.return_, 1) := by decide +kernel
theorem d_M_top_0 : decode c_M_top 0 = .ok (.aload_n 0, 1) := by decide +kernel
theorem d_M_top_1 : decode c_M_top 1 = .ok (.getfield 16, 3) := by decide +kernel
theorem d_M_top_4 : decode c_M_top 4 = .ok (.iload_n 1, 1) := by decide +kernel
theorem d_M_top_5 : decode c_M_top 5 = .ok (.iaload, 1) := by decide +kernel
theorem d_M_top_6 : decode c_M_top 6 = .ok (.aload_n 0, 1) := by decide +kernel
theorem d_M_top_7 : decode c_M_top 7 = .ok (.getfield 19, 3) := by decide +kernel
theorem d_M_top_10 : decode c_M_top 10 = .ok (.iload_n 1, 1) := by decide +kernel
theorem d_M_top_11 : decode c_M_top 11 = .ok (.iaload, 1) := by decide +kernel
theorem d_M_top_12 : decode c_M_top 12 = .ok (.if_icmp .ge (12), 3) := by decide +kernel
theorem d_M_top_15 : decode c_M_top 15 = .ok (.aload_n 0, 1) := by decide +kernel
theorem d_M_top_16 : decode c_M_top 16 = .ok (.getfield 16, 3) := by decide +kernel
theorem d_M_top_19 : decode c_M_top 19 = .ok (.iload_n 1, 1) := by decide +kernel
theorem d_M_top_20 : decode c_M_top 20 = .ok (.iaload, 1) := by decide +kernel
theorem d_M_top_21 : decode c_M_top 21 = .ok (.goto (9), 3) := by decide +kernel
theorem d_M_top_24 : decode c_M_top 24 = .ok (.aload_n 0, 1) := by decide +kernel
theorem d_M_top_25 : decode c_M_top 25 = .ok (.getfield 19, 3) := by decide +kernel
theorem d_M_top_28 : decode c_M_top 28 = .ok (.iload_n 1, 1) := by decide +kernel
theorem d_M_top_29 : decode c_M_top 29 = .ok (.iaload, 1) := by decide +kernel
theorem d_M_top_30 : decode c_M_top 30 = .ok (.ireturn, 1) := by decide +kernel
theorem d_M_sum_0 : decode c_M_sum 0 = .ok (.iconst 0, 1) := by decide +kernel
theorem d_M_sum_1 : decode c_M_sum 1 = .ok (.istore_n 3, 1) := by decide +kernel
theorem d_M_sum_2 : decode c_M_sum 2 = .ok (.iconst 0, 1) := by decide +kernel
theorem d_M_sum_3 : decode c_M_sum 3 = .ok (.istore 4, 2) := by decide +kernel
theorem d_M_sum_5 : decode c_M_sum 5 = .ok (.iload 4, 2) := by decide +kernel
theorem d_M_sum_7 : decode c_M_sum 7 = .ok (.iload_n 1, 1) := by decide +kernel
theorem d_M_sum_8 : decode c_M_sum 8 = .ok (.if_icmp .gt (50), 3) := by decide +kernel
theorem d_M_sum_11 : decode c_M_sum 11 = .ok (.iload_n 3, 1) := by decide +kernel
theorem d_M_sum_12 : decode c_M_sum 12 = .ok (.aload_n 0, 1) := by decide +kernel
theorem d_M_sum_13 : decode c_M_sum 13 = .ok (.getfield 49, 3) := by decide +kernel
theorem d_M_sum_16 : decode c_M_sum 16 = .ok (.iload 4, 2) := by decide +kernel
theorem d_M_sum_18 : decode c_M_sum 18 = .ok (.iaload, 1) := by decide +kernel
theorem d_M_sum_19 : decode c_M_sum 19 = .ok (.iload_n 2, 1) := by decide +kernel
theorem d_M_sum_20 : decode c_M_sum 20 = .ok (.ifCond .ne (13), 3) := by decide +kernel
theorem d_M_sum_23 : decode c_M_sum 23 = .ok (.aload_n 0, 1) := by decide +kernel
theorem d_M_sum_24 : decode c_M_sum 24 = .ok (.getfield 7, 3) := by decide +kernel
theorem d_M_sum_27 : decode c_M_sum 27 = .ok (.iload 4, 2) := by decide +kernel
theorem d_M_sum_29 : decode c_M_sum 29 = .ok (.iaload, 1) := by decide +kernel
theorem d_M_sum_30 : decode c_M_sum 30 = .ok (.goto (19), 3) := by decide +kernel
theorem d_M_sum_33 : decode c_M_sum 33 = .ok (.iload_n 2, 1) := by decide +kernel
theorem d_M_sum_34 : decode c_M_sum 34 = .ok (.iconst 1, 1) := by decide +kernel
theorem d_M_sum_35 : decode c_M_sum 35 = .ok (.if_icmp .ne (13), 3) := by decide +kernel
theorem d_M_sum_38 : decode c_M_sum 38 = .ok (.aload_n 0, 1) := by decide +kernel
theorem d_M_sum_39 : decode c_M_sum 39 = .ok (.getfield 13, 3) := by decide +kernel
theorem d_M_sum_42 : decode c_M_sum 42 = .ok (.iload 4, 2) := by decide +kernel
theorem d_M_sum_44 : decode c_M_sum 44 = .ok (.iaload, 1) := by decide +kernel
theorem d_M_sum_45 : decode c_M_sum 45 = .ok (.goto (4), 3) := by decide +kernel
theorem d_M_sum_48 : decode c_M_sum 48 = .ok (.iconst 1, 1) := by decide +kernel
theorem d_M_sum_49 : decode c_M_sum 49 = .ok (.imul, 1) := by decide +kernel
theorem d_M_sum_50 : decode c_M_sum 50 = .ok (.iadd, 1) := by decide +kernel
theorem d_M_sum_51 : decode c_M_sum 51 = .ok (.istore_n 3, 1) := by decide +kernel
theorem d_M_sum_52 : decode c_M_sum 52 = .ok (.iinc 4 (1), 3) := by decide +kernel
theorem d_M_sum_55 : decode c_M_sum 55 = .ok (.goto (-50), 3) := by decide +kernel
theorem d_M_sum_58 : decode c_M_sum 58 = .ok (.iload_n 3, 1) := by decide +kernel
theorem d_M_sum_59 : decode c_M_sum 59 = .ok (.ireturn, 1) := by decide +kernel
theorem d_M_broken_0 : decode c_M_broken 0 = .ok (.aload_n 0, 1) := by decide +kernel
theorem d_M_broken_1 : decode c_M_broken 1 = .ok (.aload_n 0, 1) := by decide +kernel
theorem d_M_broken_2 : decode c_M_broken 2 = .ok (.getfield 60, 3) := by decide +kernel
theorem d_M_broken_5 : decode c_M_broken 5 = .ok (.iconst 1, 1) := by decide +kernel
theorem d_M_broken_6 : decode c_M_broken 6 = .ok (.isub, 1) := by decide +kernel
theorem d_M_broken_7 : decode c_M_broken 7 = .ok (.iconst 0, 1) := by decide +kernel
theorem d_M_broken_8 : decode c_M_broken 8 = .ok (.invokevirtual 97, 3) := by decide +kernel
theorem d_M_broken_11 : decode c_M_broken 11 = .ok (.istore_n 2, 1) := by decide +kernel
theorem d_M_broken_12 : decode c_M_broken 12 = .ok (.iload_n 2, 1) := by decide +kernel
theorem d_M_broken_13 : decode c_M_broken 13 = .ok (.aload_n 0, 1) := by decide +kernel
theorem d_M_broken_14 : decode c_M_broken 14 = .ok (.getfield 28, 3) := by decide +kernel
theorem d_M_broken_17 : decode c_M_broken 17 = .ok (.iload_n 1, 1) := by decide +kernel
theorem d_M_broken_18 : decode c_M_broken 18 = .ok (.iaload, 1) := by decide +kernel
theorem d_M_broken_19 : decode c_M_broken 19 = .ok (.if_icmp .ge (7), 3) := by decide +kernel
theorem d_M_broken_22 : decode c_M_broken 22 = .ok (.iconst 1, 1) := by decide +kernel
theorem d_M_broken_23 : decode c_M_broken 23 = .ok (.goto (4), 3) := by decide +kernel
theorem d_M_broken_26 : decode c_M_broken 26 = .ok (.iconst 0, 1) := by decide +kernel
theorem d_M_broken_27 : decode c_M_broken 27 = .ok (.iload_n 2, 1) := by decide +kernel
theorem d_M_broken_28 : decode c_M_broken 28 = .ok (.aload_n 0, 1) := by decide +kernel
theorem d_M_broken_29 : decode c_M_broken 29 = .ok (.getfield 31, 3) := by decide +kernel
theorem d_M_broken_32 : decode c_M_broken 32 = .ok (.iload_n 1, 1) := by decide +kernel
theorem d_M_broken_33 : decode c_M_broken 33 = .ok (.iaload, 1) := by decide +kernel
theorem d_M_broken_34 : decode c_M_broken 34 = .ok (.if_icmp .le (7), 3) := by decide +kernel
theorem d_M_broken_37 : decode c_M_broken 37 = .ok (.iconst 2, 1) := by decide +kernel
theorem d_M_broken_38 : decode c_M_broken 38 = .ok (.goto (4), 3) := by decide +kernel
theorem d_M_broken_41 : decode c_M_broken 41 = .ok (.iconst 0, 1) := by decide +kernel
theorem d_M_broken_42 : decode c_M_broken 42 = .ok (.ior, 1) := by decide +kernel
theorem d_M_broken_43 : decode c_M_broken 43 = .ok (.aload_n 0, 1) := by decide +kernel
theorem d_M_broken_44 : decode c_M_broken 44 = .ok (.aload_n 0, 1) := by decide +kernel
theorem d_M_broken_45 : decode c_M_broken 45 = .ok (.getfield 60, 3) := by decide +kernel
theorem d_M_broken_48 : decode c_M_broken 48 = .ok (.iconst 1, 1) := by decide +kernel
theorem d_M_broken_49 : decode c_M_broken 49 = .ok (.isub, 1) := by decide +kernel
theorem d_M_broken_50 : decode c_M_broken 50 = .ok (.iconst 2, 1) := by decide +kernel
theorem d_M_broken_51 : decode c_M_broken 51 = .ok (.invokevirtual 97, 3) := by decide +kernel
theorem d_M_broken_54 : decode c_M_broken 54 = .ok (.aload_n 0, 1) := by decide +kernel
theorem d_M_broken_55 : decode c_M_broken 55 = .ok (.getfield 34, 3) := by decide +kernel
theorem d_M_broken_58 : decode c_M_broken 58 = .ok (.iload_n 1, 1) := by decide +kernel
theorem d_M_broken_59 : decode c_M_broken 59 = .ok (.iaload, 1) := by decide +kernel
theorem d_M_broken_60 : decode c_M_broken 60 = .ok (.if_icmp .le (9), 3) := by decide +kernel
theorem d_M_broken_63 : decode c_M_broken 63 = .ok (.sipush (1024), 3) := by decide +kernel
theorem d_M_broken_66 : decode c_M_broken 66 = .ok (.goto (4), 3) := by decide +kernel
theorem d_M_broken_69 : decode c_M_broken 69 = .ok (.iconst 0, 1) := by decide +kernel
theorem d_M_broken_70 : decode c_M_broken 70 = .ok (.ior, 1) := by decide +kernel
theorem d_M_broken_71 : decode c_M_broken 71 = .ok (.istore_n 3, 1) := by decide +kernel
theorem d_M_broken_72 : decode c_M_broken 72 = .ok (.iconst 0, 1) := by decide +kernel
theorem d_M_broken_73 : decode c_M_broken 73 = .ok (.istore 4, 2) := by decide +kernel
theorem d_M_broken_75 : decode c_M_broken 75 = .ok (.iload 4, 2) := by decide +kernel
theorem d_M_broken_77 : decode c_M_broken 77 = .ok (.iconst 4, 1) := by decide +kernel
theorem d_M_broken_78 : decode c_M_broken 78 = .ok (.if_icmp .ge (166), 3) := by decide +kernel
theorem d_M_broken_81 : decode c_M_broken 81 = .ok (.lconst 0, 1) := by decide +kernel
theorem d_M_broken_82 : decode c_M_broken 82 = .ok (.lstore 5, 2) := by decide +kernel
theorem d_M_broken_84 : decode c_M_broken 84 = .ok (.lconst 0, 1) := by decide +kernel
theorem d_M_broken_85 : decode c_M_broken 85 = .ok (.lstore 7, 2) := by decide +kernel
theorem d_M_broken_87 : decode c_M_broken 87 = .ok (.iconst 0, 1) := by decide +kernel
theorem d_M_broken_88 : decode c_M_broken 88 = .ok (.istore 9, 2) := by decide +kernel
theorem d_M_broken_90 : decode c_M_broken 90 = .ok (.iload 9, 2) := by decide +kernel
theorem d_M_broken_92 : decode c_M_broken 92 = .ok (.aload_n 0, 1) := by decide +kernel
theorem d_M_broken_93 : decode c_M_broken 93 = .ok (.getfield 60, 3) := by decide +kernel
theorem d_M_broken_96 : decode c_M_broken 96 = .ok (.if_icmp .ge (81), 3) := by decide +kernel
theorem d_M_broken_99 : decode c_M_broken 99 = .ok (.lload 5, 2) := by decide +kernel
theorem d_M_broken_101 : decode c_M_broken 101 = .ok (.aload_n 0, 1) := by decide +kernel
theorem d_M_broken_102 : decode c_M_broken 102 = .ok (.getfield 49, 3) := by decide +kernel
theorem d_M_broken_105 : decode c_M_broken 105 = .ok (.iload 9, 2) := by decide +kernel
theorem d_M_broken_107 : decode c_M_broken 107 = .ok (.iaload, 1) := by decide +kernel
theorem d_M_broken_108 : decode c_M_broken 108 = .ok (.i2l, 1) := by decide +kernel
theorem d_M_broken_109 : decode c_M_broken 109 = .ok (.aload_n 0, 1) := by decide +kernel
theorem d_M_broken_110 : decode c_M_broken 110 = .ok (.getfield 7, 3) := by decide +kernel
theorem d_M_broken_113 : decode c_M_broken 113 = .ok (.iload 9, 2) := by decide +kernel
theorem d_M_broken_115 : decode c_M_broken 115 = .ok (.iaload, 1) := by decide +kernel
theorem d_M_broken_116 : decode c_M_broken 116 = .ok (.i2l, 1) := by decide +kernel
theorem d_M_broken_117 : decode c_M_broken 117 = .ok (.lmul, 1) := by decide +kernel
theorem d_M_broken_118 : decode c_M_broken 118 = .ok (.aload_n 0, 1) := by decide +kernel
theorem d_M_broken_119 : decode c_M_broken 119 = .ok (.getfield 25, 3) := by decide +kernel
theorem d_M_broken_122 : decode c_M_broken 122 = .ok (.iconst 4, 1) := by decide +kernel
theorem d_M_broken_123 : decode c_M_broken 123 = .ok (.iload 9, 2) := by decide +kernel
theorem d_M_broken_125 : decode c_M_broken 125 = .ok (.imul, 1) := by decide +kernel
theorem d_M_broken_126 : decode c_M_broken 126 = .ok (.iload 4, 2) := by decide +kernel
theorem d_M_broken_128 : decode c_M_broken 128 = .ok (.iadd, 1) := by decide +kernel
theorem d_M_broken_129 : decode c_M_broken 129 = .ok (.iaload, 1) := by decide +kernel
theorem d_M_broken_130 : decode c_M_broken 130 = .ok (.i2l, 1) := by decide +kernel
theorem d_M_broken_131 : decode c_M_broken 131 = .ok (.lmul, 1) := by decide +kernel
theorem d_M_broken_132 : decode c_M_broken 132 = .ok (.ladd, 1) := by decide +kernel
theorem d_M_broken_133 : decode c_M_broken 133 = .ok (.lstore 5, 2) := by decide +kernel
theorem d_M_broken_135 : decode c_M_broken 135 = .ok (.lload 7, 2) := by decide +kernel
theorem d_M_broken_137 : decode c_M_broken 137 = .ok (.aload_n 0, 1) := by decide +kernel
theorem d_M_broken_138 : decode c_M_broken 138 = .ok (.getfield 49, 3) := by decide +kernel
theorem d_M_broken_141 : decode c_M_broken 141 = .ok (.iload 9, 2) := by decide +kernel
theorem d_M_broken_143 : decode c_M_broken 143 = .ok (.iaload, 1) := by decide +kernel
theorem d_M_broken_144 : decode c_M_broken 144 = .ok (.i2l, 1) := by decide +kernel
theorem d_M_broken_145 : decode c_M_broken 145 = .ok (.aload_n 0, 1) := by decide +kernel
theorem d_M_broken_146 : decode c_M_broken 146 = .ok (.getfield 7, 3) := by decide +kernel
theorem d_M_broken_149 : decode c_M_broken 149 = .ok (.iload 9, 2) := by decide +kernel
theorem d_M_broken_151 : decode c_M_broken 151 = .ok (.iaload, 1) := by decide +kernel
theorem d_M_broken_152 : decode c_M_broken 152 = .ok (.i2l, 1) := by decide +kernel
theorem d_M_broken_153 : decode c_M_broken 153 = .ok (.lmul, 1) := by decide +kernel
theorem d_M_broken_154 : decode c_M_broken 154 = .ok (.aload_n 0, 1) := by decide +kernel
theorem d_M_broken_155 : decode c_M_broken 155 = .ok (.getfield 22, 3) := by decide +kernel
theorem d_M_broken_158 : decode c_M_broken 158 = .ok (.iconst 4, 1) := by decide +kernel
theorem d_M_broken_159 : decode c_M_broken 159 = .ok (.iload 9, 2) := by decide +kernel
theorem d_M_broken_161 : decode c_M_broken 161 = .ok (.imul, 1) := by decide +kernel
theorem d_M_broken_162 : decode c_M_broken 162 = .ok (.iload 4, 2) := by decide +kernel
theorem d_M_broken_164 : decode c_M_broken 164 = .ok (.iadd, 1) := by decide +kernel
theorem d_M_broken_165 : decode c_M_broken 165 = .ok (.iaload, 1) := by decide +kernel
theorem d_M_broken_166 : decode c_M_broken 166 = .ok (.i2l, 1) := by decide +kernel
theorem d_M_broken_167 : decode c_M_broken 167 = .ok (.lmul, 1) := by decide +kernel
theorem d_M_broken_168 : decode c_M_broken 168 = .ok (.ladd, 1) := by decide +kernel
theorem d_M_broken_169 : decode c_M_broken 169 = .ok (.lstore 7, 2) := by decide +kernel
theorem d_M_broken_171 : decode c_M_broken 171 = .ok (.iinc 9 (1), 3) := by decide +kernel
theorem d_M_broken_174 : decode c_M_broken 174 = .ok (.goto (-84), 3) := by decide +kernel
theorem d_M_broken_177 : decode c_M_broken 177 = .ok (.lload 5, 2) := by decide +kernel
theorem d_M_broken_179 : decode c_M_broken 179 = .ok (.aload_n 0, 1) := by decide +kernel
theorem d_M_broken_180 : decode c_M_broken 180 = .ok (.getfield 40, 3) := by decide +kernel
theorem d_M_broken_183 : decode c_M_broken 183 = .ok (.iconst 4, 1) := by decide +kernel
theorem d_M_broken_184 : decode c_M_broken 184 = .ok (.iload_n 1, 1) := by decide +kernel
theorem d_M_broken_185 : decode c_M_broken 185 = .ok (.imul, 1) := by decide +kernel
theorem d_M_broken_186 : decode c_M_broken 186 = .ok (.iload 4, 2) := by decide +kernel
theorem d_M_broken_188 : decode c_M_broken 188 = .ok (.iadd, 1) := by decide +kernel
theorem d_M_broken_189 : decode c_M_broken 189 = .ok (.iaload, 1) := by decide +kernel
theorem d_M_broken_190 : decode c_M_broken 190 = .ok (.i2l, 1) := by decide +kernel
theorem d_M_broken_191 : decode c_M_broken 191 = .ok (.iload_n 2, 1) := by decide +kernel
theorem d_M_broken_192 : decode c_M_broken 192 = .ok (.i2l, 1) := by decide +kernel
theorem d_M_broken_193 : decode c_M_broken 193 = .ok (.lmul, 1) := by decide +kernel
theorem d_M_broken_194 : decode c_M_broken 194 = .ok (.lcmp, 1) := by decide +kernel
theorem d_M_broken_195 : decode c_M_broken 195 = .ok (.ifCond .le (12), 3) := by decide +kernel
theorem d_M_broken_198 : decode c_M_broken 198 = .ok (.iload_n 3, 1) := by decide +kernel
theorem d_M_broken_199 : decode c_M_broken 199 = .ok (.iconst 4, 1) := by decide +kernel
theorem d_M_broken_200 : decode c_M_broken 200 = .ok (.iconst 2, 1) := by decide +kernel
theorem d_M_broken_201 : decode c_M_broken 201 = .ok (.iload 4, 2) := by decide +kernel
theorem d_M_broken_203 : decode c_M_broken 203 = .ok (.imul, 1) := by decide +kernel
theorem d_M_broken_204 : decode c_M_broken 204 = .ok (.ishl, 1) := by decide +kernel
theorem d_M_broken_205 : decode c_M_broken 205 = .ok (.ior, 1) := by decide +kernel
theorem d_M_broken_206 : decode c_M_broken 206 = .ok (.istore_n 3, 1) := by decide +kernel
theorem d_M_broken_207 : decode c_M_broken 207 = .ok (.lload 7, 2) := by decide +kernel
theorem d_M_broken_209 : decode c_M_broken 209 = .ok (.aload_n 0, 1) := by decide +kernel
theorem d_M_broken_210 : decode c_M_broken 210 = .ok (.getfield 37, 3) := by decide +kernel
theorem d_M_broken_213 : decode c_M_broken 213 = .ok (.iconst 4, 1) := by decide +kernel
theorem d_M_broken_214 : decode c_M_broken 214 = .ok (.iload_n 1, 1) := by decide +kernel
theorem d_M_broken_215 : decode c_M_broken 215 = .ok (.imul, 1) := by decide +kernel
theorem d_M_broken_216 : decode c_M_broken 216 = .ok (.iload 4, 2) := by decide +kernel
theorem d_M_broken_218 : decode c_M_broken 218 = .ok (.iadd, 1) := by decide +kernel
theorem d_M_broken_219 : decode c_M_broken 219 = .ok (.iaload, 1) := by decide +kernel
theorem d_M_broken_220 : decode c_M_broken 220 = .ok (.i2l, 1) := by decide +kernel
theorem d_M_broken_221 : decode c_M_broken 221 = .ok (.iload_n 2, 1) := by decide +kernel
theorem d_M_broken_222 : decode c_M_broken 222 = .ok (.i2l, 1) := by decide +kernel
theorem d_M_broken_223 : decode c_M_broken 223 = .ok (.lmul, 1) := by decide +kernel
theorem d_M_broken_224 : decode c_M_broken 224 = .ok (.lcmp, 1) := by decide +kernel
theorem d_M_broken_225 : decode c_M_broken 225 = .ok (.ifCond .ge (13), 3) := by decide +kernel
theorem d_M_broken_228 : decode c_M_broken 228 = .ok (.iload_n 3, 1) := by decide +kernel
theorem d_M_broken_229 : decode c_M_broken 229 = .ok (.bipush (8), 2) := by decide +kernel
theorem d_M_broken_231 : decode c_M_broken 231 = .ok (.iconst 2, 1) := by decide +kernel
theorem d_M_broken_232 : decode c_M_broken 232 = .ok (.iload 4, 2) := by decide +kernel
theorem d_M_broken_234 : decode c_M_broken 234 = .ok (.imul, 1) := by decide +kernel
theorem d_M_broken_235 : decode c_M_broken 235 = .ok (.ishl, 1) := by decide +kernel
theorem d_M_broken_236 : decode c_M_broken 236 = .ok (.ior, 1) := by decide +kernel
theorem d_M_broken_237 : decode c_M_broken 237 = .ok (.istore_n 3, 1) := by decide +kernel
theorem d_M_broken_238 : decode c_M_broken 238 = .ok (.iinc 4 (1), 3) := by decide +kernel
theorem d_M_broken_241 : decode c_M_broken 241 = .ok (.goto (-166), 3) := by decide +kernel
theorem d_M_broken_244 : decode c_M_broken 244 = .ok (.iload_n 3, 1) := by decide +kernel
theorem d_M_broken_245 : decode c_M_broken 245 = .ok (.ireturn, 1) := by decide +kernel
theorem d_M_keep_0 : decode c_M_keep 0 = .ok (.aload_n 0, 1) := by decide +kernel
theorem d_M_keep_1 : decode c_M_keep 1 = .ok (.getfield 43, 3) := by decide +kernel
theorem d_M_keep_4 : decode c_M_keep 4 = .ok (.iload_n 1, 1) := by decide +kernel
theorem d_M_keep_5 : decode c_M_keep 5 = .ok (.aload_n 0, 1) := by decide +kernel
theorem d_M_keep_6 : decode c_M_keep 6 = .ok (.aload_n 0, 1) := by decide +kernel
theorem d_M_keep_7 : decode c_M_keep 7 = .ok (.getfield 60, 3) := by decide +kernel
theorem d_M_keep_10 : decode c_M_keep 10 = .ok (.iconst 1, 1) := by decide +kernel
theorem d_M_keep_11 : decode c_M_keep 11 = .ok (.isub, 1) := by decide +kernel
theorem d_M_keep_12 : decode c_M_keep 12 = .ok (.iconst 1, 1) := by decide +kernel
theorem d_M_keep_13 : decode c_M_keep 13 = .ok (.invokevirtual 97, 3) := by decide +kernel
theorem d_M_keep_16 : decode c_M_keep 16 = .ok (.iastore, 1) := by decide +kernel
theorem d_M_keep_17 : decode c_M_keep 17 = .ok (.iconst 0, 1) := by decide +kernel
theorem d_M_keep_18 : decode c_M_keep 18 = .ok (.istore_n 2, 1) := by decide +kernel
theorem d_M_keep_19 : decode c_M_keep 19 = .ok (.iload_n 2, 1) := by decide +kernel
theorem d_M_keep_20 : decode c_M_keep 20 = .ok (.iconst 5, 1) := by decide +kernel
theorem d_M_keep_21 : decode c_M_keep 21 = .ok (.if_icmp .ge (37), 3) := by decide +kernel
theorem d_M_keep_24 : decode c_M_keep 24 = .ok (.aload_n 0, 1) := by decide +kernel
theorem d_M_keep_25 : decode c_M_keep 25 = .ok (.getfield 46, 3) := by decide +kernel
theorem d_M_keep_28 : decode c_M_keep 28 = .ok (.iconst 5, 1) := by decide +kernel
theorem d_M_keep_29 : decode c_M_keep 29 = .ok (.iload_n 1, 1) := by decide +kernel
theorem d_M_keep_30 : decode c_M_keep 30 = .ok (.imul, 1) := by decide +kernel
theorem d_M_keep_31 : decode c_M_keep 31 = .ok (.iload_n 2, 1) := by decide +kernel
theorem d_M_keep_32 : decode c_M_keep 32 = .ok (.iadd, 1) := by decide +kernel
theorem d_M_keep_33 : decode c_M_keep 33 = .ok (.iload_n 2, 1) := by decide +kernel
theorem d_M_keep_34 : decode c_M_keep 34 = .ok (.aload_n 0, 1) := by decide +kernel
theorem d_M_keep_35 : decode c_M_keep 35 = .ok (.getfield 60, 3) := by decide +kernel
theorem d_M_keep_38 : decode c_M_keep 38 = .ok (.if_icmp .ge (12), 3) := by decide +kernel
theorem d_M_keep_41 : decode c_M_keep 41 = .ok (.aload_n 0, 1) := by decide +kernel
theorem d_M_keep_42 : decode c_M_keep 42 = .ok (.getfield 49, 3) := by decide +kernel
theorem d_M_keep_45 : decode c_M_keep 45 = .ok (.iload_n 2, 1) := by decide +kernel
theorem d_M_keep_46 : decode c_M_keep 46 = .ok (.iaload, 1) := by decide +kernel
theorem d_M_keep_47 : decode c_M_keep 47 = .ok (.goto (4), 3) := by decide +kernel
theorem d_M_keep_50 : decode c_M_keep 50 = .ok (.iconst 0, 1) := by decide +kernel
theorem d_M_keep_51 : decode c_M_keep 51 = .ok (.iastore, 1) := by decide +kernel
theorem d_M_keep_52 : decode c_M_keep 52 = .ok (.iinc 2 (1), 3) := by decide +kernel
theorem d_M_keep_55 : decode c_M_keep 55 = .ok (.goto (-36), 3) := by decide +kernel
theorem d_M_keep_58 : decode c_M_keep 58 = .ok (.return_, 1) := by decide +kernel
theorem d_M_plan_0 : decode c_M_plan 0 = .ok (.aload_n 0, 1) := by decide +kernel
theorem d_M_plan_1 : decode c_M_plan 1 = .ok (.aload_n 0, 1) := by decide +kernel
theorem d_M_plan_2 : decode c_M_plan 2 = .ok (.iload_n 1, 1) := by decide +kernel
theorem d_M_plan_3 : decode c_M_plan 3 = .ok (.invokevirtual 92, 3) := by decide +kernel
theorem d_M_plan_6 : decode c_M_plan 6 = .ok (.ifCond .ne (7), 3) := by decide +kernel
theorem d_M_plan_9 : decode c_M_plan 9 = .ok (.iconst 1, 1) := by decide +kernel
theorem d_M_plan_10 : decode c_M_plan 10 = .ok (.goto (4), 3) := by decide +kernel
theorem d_M_plan_13 : decode c_M_plan 13 = .ok (.iconst 0, 1) := by decide +kernel
theorem d_M_plan_14 : decode c_M_plan 14 = .ok (.iload_n 2, 1) := by decide +kernel
theorem d_M_plan_15 : decode c_M_plan 15 = .ok (.i2l, 1) := by decide +kernel
theorem d_M_plan_16 : decode c_M_plan 16 = .ok (.lconst 0, 1) := by decide +kernel
theorem d_M_plan_17 : decode c_M_plan 17 = .ok (.ldc2_w 72, 3) := by decide +kernel
theorem d_M_plan_20 : decode c_M_plan 20 = .ok (.invokestatic 63, 3) := by decide +kernel
theorem d_M_plan_23 : decode c_M_plan 23 = .ok (.ifCond .ne (7), 3) := by decide +kernel
theorem d_M_plan_26 : decode c_M_plan 26 = .ok (.iconst 1, 1) := by decide +kernel
theorem d_M_plan_27 : decode c_M_plan 27 = .ok (.goto (4), 3) := by decide +kernel
theorem d_M_plan_30 : decode c_M_plan 30 = .ok (.iconst 0, 1) := by decide +kernel
theorem d_M_plan_31 : decode c_M_plan 31 = .ok (.iconst 0, 1) := by decide +kernel
theorem d_M_plan_32 : decode c_M_plan 32 = .ok (.invokevirtual 76, 3) := by decide +kernel
theorem d_M_plan_35 : decode c_M_plan 35 = .ok (.ifCond .eq (5), 3) := by decide +kernel
theorem d_M_plan_38 : decode c_M_plan 38 = .ok (.iconst 0, 1) := by decide +kernel
theorem d_M_plan_39 : decode c_M_plan 39 = .ok (.ireturn, 1) := by decide +kernel
theorem d_M_plan_40 : decode c_M_plan 40 = .ok (.aload_n 0, 1) := by decide +kernel
theorem d_M_plan_41 : decode c_M_plan 41 = .ok (.iconst 1, 1) := by decide +kernel
theorem d_M_plan_42 : decode c_M_plan 42 = .ok (.putfield 101, 3) := by decide +kernel
theorem d_M_plan_45 : decode c_M_plan 45 = .ok (.aload_n 0, 1) := by decide +kernel
theorem d_M_plan_46 : decode c_M_plan 46 = .ok (.iconst 0, 1) := by decide +kernel
theorem d_M_plan_47 : decode c_M_plan 47 = .ok (.putfield 105, 3) := by decide +kernel
theorem d_M_plan_50 : decode c_M_plan 50 = .ok (.aload_n 0, 1) := by decide +kernel
theorem d_M_plan_51 : decode c_M_plan 51 = .ok (.iconst 0, 1) := by decide +kernel
theorem d_M_plan_52 : decode c_M_plan 52 = .ok (.putfield 108, 3) := by decide +kernel
theorem d_M_plan_55 : decode c_M_plan 55 = .ok (.aload_n 0, 1) := by decide +kernel
theorem d_M_plan_56 : decode c_M_plan 56 = .ok (.getfield 43, 3) := by decide +kernel
end
section
theorem d_M_plan_59 : decode c_M_plan 59 = .ok (.iload_n 1, 1) := by decide +kernel
theorem d_M_plan_60 : decode c_M_plan 60 = .ok (.iconst (-1), 1) := by decide +kernel
theorem d_M_plan_61 : decode c_M_plan 61 = .ok (.iastore, 1) := by decide +kernel
theorem d_M_plan_62 : decode c_M_plan 62 = .ok (.iconst 0, 1) := by decide +kernel
theorem d_M_plan_63 : decode c_M_plan 63 = .ok (.istore_n 3, 1) := by decide +kernel
theorem d_M_plan_64 : decode c_M_plan 64 = .ok (.iload_n 3, 1) := by decide +kernel
theorem d_M_plan_65 : decode c_M_plan 65 = .ok (.iconst 5, 1) := by decide +kernel
theorem d_M_plan_66 : decode c_M_plan 66 = .ok (.if_icmp .ge (16), 3) := by decide +kernel
theorem d_M_plan_69 : decode c_M_plan 69 = .ok (.aload_n 0, 1) := by decide +kernel
theorem d_M_plan_70 : decode c_M_plan 70 = .ok (.getfield 49, 3) := by decide +kernel
theorem d_M_plan_73 : decode c_M_plan 73 = .ok (.iload_n 3, 1) := by decide +kernel
theorem d_M_plan_74 : decode c_M_plan 74 = .ok (.iconst (-1), 1) := by decide +kernel
theorem d_M_plan_75 : decode c_M_plan 75 = .ok (.iastore, 1) := by decide +kernel
theorem d_M_plan_76 : decode c_M_plan 76 = .ok (.iinc 3 (1), 3) := by decide +kernel
theorem d_M_plan_79 : decode c_M_plan 79 = .ok (.goto (-15), 3) := by decide +kernel
theorem d_M_plan_82 : decode c_M_plan 82 = .ok (.aload_n 0, 1) := by decide +kernel
theorem d_M_plan_83 : decode c_M_plan 83 = .ok (.getfield 60, 3) := by decide +kernel
theorem d_M_plan_86 : decode c_M_plan 86 = .ok (.ifCond .le (7), 3) := by decide +kernel
theorem d_M_plan_89 : decode c_M_plan 89 = .ok (.iconst 0, 1) := by decide +kernel
theorem d_M_plan_90 : decode c_M_plan 90 = .ok (.goto (4), 3) := by decide +kernel
theorem d_M_plan_93 : decode c_M_plan 93 = .ok (.iconst (-1), 1) := by decide +kernel
theorem d_M_plan_94 : decode c_M_plan 94 = .ok (.istore_n 3, 1) := by decide +kernel
theorem d_M_plan_95 : decode c_M_plan 95 = .ok (.iload_n 3, 1) := by decide +kernel
theorem d_M_plan_96 : decode c_M_plan 96 = .ok (.ifCond .lt (168), 3) := by decide +kernel
theorem d_M_plan_99 : decode c_M_plan 99 = .ok (.aload_n 0, 1) := by decide +kernel
theorem d_M_plan_100 : decode c_M_plan 100 = .ok (.getfield 105, 3) := by decide +kernel
theorem d_M_plan_103 : decode c_M_plan 103 = .ok (.ifCond .ne (161), 3) := by decide +kernel
theorem d_M_plan_106 : decode c_M_plan 106 = .ok (.aload_n 0, 1) := by decide +kernel
theorem d_M_plan_107 : decode c_M_plan 107 = .ok (.getfield 49, 3) := by decide +kernel
theorem d_M_plan_110 : decode c_M_plan 110 = .ok (.iload_n 3, 1) := by decide +kernel
theorem d_M_plan_111 : decode c_M_plan 111 = .ok (.iaload, 1) := by decide +kernel
theorem d_M_plan_112 : decode c_M_plan 112 = .ok (.aload_n 0, 1) := by decide +kernel
theorem d_M_plan_113 : decode c_M_plan 113 = .ok (.iload_n 3, 1) := by decide +kernel
theorem d_M_plan_114 : decode c_M_plan 114 = .ok (.invokevirtual 111, 3) := by decide +kernel
theorem d_M_plan_117 : decode c_M_plan 117 = .ok (.if_icmp .ne (16), 3) := by decide +kernel
theorem d_M_plan_120 : decode c_M_plan 120 = .ok (.aload_n 0, 1) := by decide +kernel
theorem d_M_plan_121 : decode c_M_plan 121 = .ok (.getfield 49, 3) := by decide +kernel
theorem d_M_plan_124 : decode c_M_plan 124 = .ok (.iload_n 3, 1) := by decide +kernel
theorem d_M_plan_125 : decode c_M_plan 125 = .ok (.iconst (-1), 1) := by decide +kernel
theorem d_M_plan_126 : decode c_M_plan 126 = .ok (.iastore, 1) := by decide +kernel
theorem d_M_plan_127 : decode c_M_plan 127 = .ok (.iinc 3 (-1), 3) := by decide +kernel
theorem d_M_plan_130 : decode c_M_plan 130 = .ok (.goto (-35), 3) := by decide +kernel
theorem d_M_plan_133 : decode c_M_plan 133 = .ok (.aload_n 0, 1) := by decide +kernel
theorem d_M_plan_134 : decode c_M_plan 134 = .ok (.getfield 108, 3) := by decide +kernel
theorem d_M_plan_137 : decode c_M_plan 137 = .ok (.iload_n 2, 1) := by decide +kernel
theorem d_M_plan_138 : decode c_M_plan 138 = .ok (.if_icmp .ne (11), 3) := by decide +kernel
theorem d_M_plan_141 : decode c_M_plan 141 = .ok (.aload_n 0, 1) := by decide +kernel
theorem d_M_plan_142 : decode c_M_plan 142 = .ok (.iconst 1, 1) := by decide +kernel
theorem d_M_plan_143 : decode c_M_plan 143 = .ok (.putfield 105, 3) := by decide +kernel
theorem d_M_plan_146 : decode c_M_plan 146 = .ok (.goto (-51), 3) := by decide +kernel
theorem d_M_plan_149 : decode c_M_plan 149 = .ok (.aload_n 0, 1) := by decide +kernel
theorem d_M_plan_150 : decode c_M_plan 150 = .ok (.getfield 49, 3) := by decide +kernel
theorem d_M_plan_153 : decode c_M_plan 153 = .ok (.iload_n 3, 1) := by decide +kernel
theorem d_M_plan_154 : decode c_M_plan 154 = .ok (.dup2, 1) := by decide +kernel
theorem d_M_plan_155 : decode c_M_plan 155 = .ok (.iaload, 1) := by decide +kernel
theorem d_M_plan_156 : decode c_M_plan 156 = .ok (.iconst 1, 1) := by decide +kernel
theorem d_M_plan_157 : decode c_M_plan 157 = .ok (.iadd, 1) := by decide +kernel
theorem d_M_plan_158 : decode c_M_plan 158 = .ok (.iastore, 1) := by decide +kernel
theorem d_M_plan_159 : decode c_M_plan 159 = .ok (.aload_n 0, 1) := by decide +kernel
theorem d_M_plan_160 : decode c_M_plan 160 = .ok (.dup, 1) := by decide +kernel
theorem d_M_plan_161 : decode c_M_plan 161 = .ok (.getfield 108, 3) := by decide +kernel
theorem d_M_plan_164 : decode c_M_plan 164 = .ok (.iconst 1, 1) := by decide +kernel
theorem d_M_plan_165 : decode c_M_plan 165 = .ok (.iadd, 1) := by decide +kernel
theorem d_M_plan_166 : decode c_M_plan 166 = .ok (.putfield 108, 3) := by decide +kernel
theorem d_M_plan_169 : decode c_M_plan 169 = .ok (.aload_n 0, 1) := by decide +kernel
theorem d_M_plan_170 : decode c_M_plan 170 = .ok (.getfield 43, 3) := by decide +kernel
theorem d_M_plan_173 : decode c_M_plan 173 = .ok (.iload_n 1, 1) := by decide +kernel
theorem d_M_plan_174 : decode c_M_plan 174 = .ok (.iaload, 1) := by decide +kernel
theorem d_M_plan_175 : decode c_M_plan 175 = .ok (.ifCond .lt (18), 3) := by decide +kernel
theorem d_M_plan_178 : decode c_M_plan 178 = .ok (.aload_n 0, 1) := by decide +kernel
theorem d_M_plan_179 : decode c_M_plan 179 = .ok (.iload_n 3, 1) := by decide +kernel
theorem d_M_plan_180 : decode c_M_plan 180 = .ok (.iconst 1, 1) := by decide +kernel
theorem d_M_plan_181 : decode c_M_plan 181 = .ok (.invokevirtual 97, 3) := by decide +kernel
theorem d_M_plan_184 : decode c_M_plan 184 = .ok (.aload_n 0, 1) := by decide +kernel
theorem d_M_plan_185 : decode c_M_plan 185 = .ok (.getfield 43, 3) := by decide +kernel
theorem d_M_plan_188 : decode c_M_plan 188 = .ok (.iload_n 1, 1) := by decide +kernel
theorem d_M_plan_189 : decode c_M_plan 189 = .ok (.iaload, 1) := by decide +kernel
theorem d_M_plan_190 : decode c_M_plan 190 = .ok (.if_icmp .ge (18), 3) := by decide +kernel
theorem d_M_plan_193 : decode c_M_plan 193 = .ok (.aload_n 0, 1) := by decide +kernel
theorem d_M_plan_194 : decode c_M_plan 194 = .ok (.iload_n 3, 1) := by decide +kernel
theorem d_M_plan_195 : decode c_M_plan 195 = .ok (.iconst 0, 1) := by decide +kernel
theorem d_M_plan_196 : decode c_M_plan 196 = .ok (.invokevirtual 97, 3) := by decide +kernel
theorem d_M_plan_199 : decode c_M_plan 199 = .ok (.aload_n 0, 1) := by decide +kernel
theorem d_M_plan_200 : decode c_M_plan 200 = .ok (.getfield 31, 3) := by decide +kernel
theorem d_M_plan_203 : decode c_M_plan 203 = .ok (.iload_n 1, 1) := by decide +kernel
theorem d_M_plan_204 : decode c_M_plan 204 = .ok (.iaload, 1) := by decide +kernel
theorem d_M_plan_205 : decode c_M_plan 205 = .ok (.if_icmp .le (7), 3) := by decide +kernel
theorem d_M_plan_208 : decode c_M_plan 208 = .ok (.iconst 1, 1) := by decide +kernel
theorem d_M_plan_209 : decode c_M_plan 209 = .ok (.goto (4), 3) := by decide +kernel
theorem d_M_plan_212 : decode c_M_plan 212 = .ok (.iconst 0, 1) := by decide +kernel
theorem d_M_plan_213 : decode c_M_plan 213 = .ok (.istore 4, 2) := by decide +kernel
theorem d_M_plan_215 : decode c_M_plan 215 = .ok (.iload 4, 2) := by decide +kernel
theorem d_M_plan_217 : decode c_M_plan 217 = .ok (.ifCond .ne (26), 3) := by decide +kernel
theorem d_M_plan_220 : decode c_M_plan 220 = .ok (.iload_n 3, 1) := by decide +kernel
theorem d_M_plan_221 : decode c_M_plan 221 = .ok (.aload_n 0, 1) := by decide +kernel
theorem d_M_plan_222 : decode c_M_plan 222 = .ok (.getfield 60, 3) := by decide +kernel
theorem d_M_plan_225 : decode c_M_plan 225 = .ok (.iconst 1, 1) := by decide +kernel
theorem d_M_plan_226 : decode c_M_plan 226 = .ok (.isub, 1) := by decide +kernel
theorem d_M_plan_227 : decode c_M_plan 227 = .ok (.if_icmp .ne (16), 3) := by decide +kernel
theorem d_M_plan_230 : decode c_M_plan 230 = .ok (.aload_n 0, 1) := by decide +kernel
theorem d_M_plan_231 : decode c_M_plan 231 = .ok (.iload_n 1, 1) := by decide +kernel
theorem d_M_plan_232 : decode c_M_plan 232 = .ok (.invokevirtual 115, 3) := by decide +kernel
theorem d_M_plan_235 : decode c_M_plan 235 = .ok (.ifCond .ne (8), 3) := by decide +kernel
theorem d_M_plan_238 : decode c_M_plan 238 = .ok (.aload_n 0, 1) := by decide +kernel
theorem d_M_plan_239 : decode c_M_plan 239 = .ok (.iload_n 1, 1) := by decide +kernel
theorem d_M_plan_240 : decode c_M_plan 240 = .ok (.invokevirtual 118, 3) := by decide +kernel
theorem d_M_plan_243 : decode c_M_plan 243 = .ok (.iload 4, 2) := by decide +kernel
theorem d_M_plan_245 : decode c_M_plan 245 = .ok (.ifCond .ne (16), 3) := by decide +kernel
theorem d_M_plan_248 : decode c_M_plan 248 = .ok (.iload_n 3, 1) := by decide +kernel
theorem d_M_plan_249 : decode c_M_plan 249 = .ok (.aload_n 0, 1) := by decide +kernel
theorem d_M_plan_250 : decode c_M_plan 250 = .ok (.getfield 60, 3) := by decide +kernel
theorem d_M_plan_253 : decode c_M_plan 253 = .ok (.iconst 1, 1) := by decide +kernel
theorem d_M_plan_254 : decode c_M_plan 254 = .ok (.isub, 1) := by decide +kernel
theorem d_M_plan_255 : decode c_M_plan 255 = .ok (.if_icmp .ge (6), 3) := by decide +kernel
theorem d_M_plan_258 : decode c_M_plan 258 = .ok (.iinc 3 (1), 3) := by decide +kernel
theorem d_M_plan_261 : decode c_M_plan 261 = .ok (.goto (-166), 3) := by decide +kernel
theorem d_M_plan_264 : decode c_M_plan 264 = .ok (.aload_n 0, 1) := by decide +kernel
theorem d_M_plan_265 : decode c_M_plan 265 = .ok (.getfield 43, 3) := by decide +kernel
theorem d_M_plan_268 : decode c_M_plan 268 = .ok (.iload_n 1, 1) := by decide +kernel
theorem d_M_plan_269 : decode c_M_plan 269 = .ok (.iaload, 1) := by decide +kernel
theorem d_M_plan_270 : decode c_M_plan 270 = .ok (.ireturn, 1) := by decide +kernel
theorem d_M_planned_0 : decode c_M_planned 0 = .ok (.aload_n 0, 1) := by decide +kernel
theorem d_M_planned_1 : decode c_M_planned 1 = .ok (.iload_n 1, 1) := by decide +kernel
theorem d_M_planned_2 : decode c_M_planned 2 = .ok (.i2l, 1) := by decide +kernel
theorem d_M_planned_3 : decode c_M_planned 3 = .ok (.lconst 0, 1) := by decide +kernel
theorem d_M_planned_4 : decode c_M_planned 4 = .ok (.lconst 1, 1) := by decide +kernel
theorem d_M_planned_5 : decode c_M_planned 5 = .ok (.invokestatic 63, 3) := by decide +kernel
theorem d_M_planned_8 : decode c_M_planned 8 = .ok (.ifCond .ne (7), 3) := by decide +kernel
theorem d_M_planned_11 : decode c_M_planned 11 = .ok (.iconst 1, 1) := by decide +kernel
theorem d_M_planned_12 : decode c_M_planned 12 = .ok (.goto (4), 3) := by decide +kernel
theorem d_M_planned_15 : decode c_M_planned 15 = .ok (.iconst 0, 1) := by decide +kernel
theorem d_M_planned_16 : decode c_M_planned 16 = .ok (.aload_n 0, 1) := by decide +kernel
theorem d_M_planned_17 : decode c_M_planned 17 = .ok (.getfield 101, 3) := by decide +kernel
theorem d_M_planned_20 : decode c_M_planned 20 = .ok (.ifCond .ne (7), 3) := by decide +kernel
theorem d_M_planned_23 : decode c_M_planned 23 = .ok (.iconst 1, 1) := by decide +kernel
theorem d_M_planned_24 : decode c_M_planned 24 = .ok (.goto (4), 3) := by decide +kernel
theorem d_M_planned_27 : decode c_M_planned 27 = .ok (.iconst 0, 1) := by decide +kernel
theorem d_M_planned_28 : decode c_M_planned 28 = .ok (.iconst 0, 1) := by decide +kernel
theorem d_M_planned_29 : decode c_M_planned 29 = .ok (.invokevirtual 76, 3) := by decide +kernel
theorem d_M_planned_32 : decode c_M_planned 32 = .ok (.ifCond .eq (5), 3) := by decide +kernel
theorem d_M_planned_35 : decode c_M_planned 35 = .ok (.iconst 0, 1) := by decide +kernel
theorem d_M_planned_36 : decode c_M_planned 36 = .ok (.ireturn, 1) := by decide +kernel
theorem d_M_planned_37 : decode c_M_planned 37 = .ok (.iload_n 1, 1) := by decide +kernel
theorem d_M_planned_38 : decode c_M_planned 38 = .ok (.iconst 1, 1) := by decide +kernel
theorem d_M_planned_39 : decode c_M_planned 39 = .ok (.if_icmp .ne (10), 3) := by decide +kernel
theorem d_M_planned_42 : decode c_M_planned 42 = .ok (.aload_n 0, 1) := by decide +kernel
theorem d_M_planned_43 : decode c_M_planned 43 = .ok (.getfield 108, 3) := by decide +kernel
theorem d_M_planned_46 : decode c_M_planned 46 = .ok (.goto (15), 3) := by decide +kernel
theorem d_M_planned_49 : decode c_M_planned 49 = .ok (.aload_n 0, 1) := by decide +kernel
theorem d_M_planned_50 : decode c_M_planned 50 = .ok (.getfield 105, 3) := by decide +kernel
theorem d_M_planned_53 : decode c_M_planned 53 = .ok (.ifCond .eq (7), 3) := by decide +kernel
theorem d_M_planned_56 : decode c_M_planned 56 = .ok (.iconst 1, 1) := by decide +kernel
theorem d_M_planned_57 : decode c_M_planned 57 = .ok (.goto (4), 3) := by decide +kernel
theorem d_M_planned_60 : decode c_M_planned 60 = .ok (.iconst 0, 1) := by decide +kernel
theorem d_M_planned_61 : decode c_M_planned 61 = .ok (.ireturn, 1) := by decide +kernel
theorem d_M_hasPlan_0 : decode c_M_hasPlan 0 = .ok (.aload_n 0, 1) := by decide +kernel
theorem d_M_hasPlan_1 : decode c_M_hasPlan 1 = .ok (.iload_n 1, 1) := by decide +kernel
theorem d_M_hasPlan_2 : decode c_M_hasPlan 2 = .ok (.invokevirtual 92, 3) := by decide +kernel
theorem d_M_hasPlan_5 : decode c_M_hasPlan 5 = .ok (.ifCond .eq (16), 3) := by decide +kernel
theorem d_M_hasPlan_8 : decode c_M_hasPlan 8 = .ok (.aload_n 0, 1) := by decide +kernel
theorem d_M_hasPlan_9 : decode c_M_hasPlan 9 = .ok (.getfield 43, 3) := by decide +kernel
theorem d_M_hasPlan_12 : decode c_M_hasPlan 12 = .ok (.iload_n 1, 1) := by decide +kernel
theorem d_M_hasPlan_13 : decode c_M_hasPlan 13 = .ok (.iaload, 1) := by decide +kernel
theorem d_M_hasPlan_14 : decode c_M_hasPlan 14 = .ok (.ifCond .lt (7), 3) := by decide +kernel
theorem d_M_hasPlan_17 : decode c_M_hasPlan 17 = .ok (.iconst 1, 1) := by decide +kernel
theorem d_M_hasPlan_18 : decode c_M_hasPlan 18 = .ok (.goto (4), 3) := by decide +kernel
theorem d_M_hasPlan_21 : decode c_M_hasPlan 21 = .ok (.iconst 0, 1) := by decide +kernel
theorem d_M_hasPlan_22 : decode c_M_hasPlan 22 = .ok (.ireturn, 1) := by decide +kernel
theorem d_M_amount_0 : decode c_M_amount 0 = .ok (.aload_n 0, 1) := by decide +kernel
theorem d_M_amount_1 : decode c_M_amount 1 = .ok (.aload_n 0, 1) := by decide +kernel
theorem d_M_amount_2 : decode c_M_amount 2 = .ok (.iload_n 1, 1) := by decide +kernel
theorem d_M_amount_3 : decode c_M_amount 3 = .ok (.invokevirtual 92, 3) := by decide +kernel
theorem d_M_amount_6 : decode c_M_amount 6 = .ok (.ifCond .eq (11), 3) := by decide +kernel
theorem d_M_amount_9 : decode c_M_amount 9 = .ok (.aload_n 0, 1) := by decide +kernel
theorem d_M_amount_10 : decode c_M_amount 10 = .ok (.iload_n 2, 1) := by decide +kernel
theorem d_M_amount_11 : decode c_M_amount 11 = .ok (.invokevirtual 82, 3) := by decide +kernel
theorem d_M_amount_14 : decode c_M_amount 14 = .ok (.ifCond .ne (7), 3) := by decide +kernel
theorem d_M_amount_17 : decode c_M_amount 17 = .ok (.iconst 1, 1) := by decide +kernel
theorem d_M_amount_18 : decode c_M_amount 18 = .ok (.goto (4), 3) := by decide +kernel
theorem d_M_amount_21 : decode c_M_amount 21 = .ok (.iconst 0, 1) := by decide +kernel
theorem d_M_amount_22 : decode c_M_amount 22 = .ok (.aload_n 0, 1) := by decide +kernel
theorem d_M_amount_23 : decode c_M_amount 23 = .ok (.iload_n 1, 1) := by decide +kernel
theorem d_M_amount_24 : decode c_M_amount 24 = .ok (.invokevirtual 122, 3) := by decide +kernel
theorem d_M_amount_27 : decode c_M_amount 27 = .ok (.ifCond .ne (7), 3) := by decide +kernel
theorem d_M_amount_30 : decode c_M_amount 30 = .ok (.iconst 1, 1) := by decide +kernel
theorem d_M_amount_31 : decode c_M_amount 31 = .ok (.goto (4), 3) := by decide +kernel
theorem d_M_amount_34 : decode c_M_amount 34 = .ok (.iconst 0, 1) := by decide +kernel
theorem d_M_amount_35 : decode c_M_amount 35 = .ok (.iconst 0, 1) := by decide +kernel
theorem d_M_amount_36 : decode c_M_amount 36 = .ok (.invokevirtual 76, 3) := by decide +kernel
theorem d_M_amount_39 : decode c_M_amount 39 = .ok (.ifCond .eq (5), 3) := by decide +kernel
theorem d_M_amount_42 : decode c_M_amount 42 = .ok (.iconst 0, 1) := by decide +kernel
theorem d_M_amount_43 : decode c_M_amount 43 = .ok (.ireturn, 1) := by decide +kernel
theorem d_M_amount_44 : decode c_M_amount 44 = .ok (.aload_n 0, 1) := by decide +kernel
theorem d_M_amount_45 : decode c_M_amount 45 = .ok (.getfield 46, 3) := by decide +kernel
theorem d_M_amount_48 : decode c_M_amount 48 = .ok (.iconst 5, 1) := by decide +kernel
theorem d_M_amount_49 : decode c_M_amount 49 = .ok (.iload_n 1, 1) := by decide +kernel
theorem d_M_amount_50 : decode c_M_amount 50 = .ok (.imul, 1) := by decide +kernel
theorem d_M_amount_51 : decode c_M_amount 51 = .ok (.iload_n 2, 1) := by decide +kernel
theorem d_M_amount_52 : decode c_M_amount 52 = .ok (.iadd, 1) := by decide +kernel
theorem d_M_amount_53 : decode c_M_amount 53 = .ok (.iaload, 1) := by decide +kernel
theorem d_M_amount_54 : decode c_M_amount 54 = .ok (.ireturn, 1) := by decide +kernel
theorem d_M_common_0 : decode c_M_common 0 = .ok (.lload_n 0, 1) := by decide +kernel
theorem d_M_common_1 : decode c_M_common 1 = .ok (.lstore 4, 2) := by decide +kernel
theorem d_M_common_3 : decode c_M_common 3 = .ok (.lload_n 2, 1) := by decide +kernel
theorem d_M_common_4 : decode c_M_common 4 = .ok (.lstore 6, 2) := by decide +kernel
theorem d_M_common_6 : decode c_M_common 6 = .ok (.lload 6, 2) := by decide +kernel
theorem d_M_common_8 : decode c_M_common 8 = .ok (.lconst 0, 1) := by decide +kernel
theorem d_M_common_9 : decode c_M_common 9 = .ok (.lcmp, 1) := by decide +kernel
theorem d_M_common_10 : decode c_M_common 10 = .ok (.ifCond .le (21), 3) := by decide +kernel
theorem d_M_common_13 : decode c_M_common 13 = .ok (.lload 4, 2) := by decide +kernel
theorem d_M_common_15 : decode c_M_common 15 = .ok (.lload 6, 2) := by decide +kernel
theorem d_M_common_17 : decode c_M_common 17 = .ok (.lrem, 1) := by decide +kernel
theorem d_M_common_18 : decode c_M_common 18 = .ok (.lstore 8, 2) := by decide +kernel
theorem d_M_common_20 : decode c_M_common 20 = .ok (.lload 6, 2) := by decide +kernel
theorem d_M_common_22 : decode c_M_common 22 = .ok (.lstore 4, 2) := by decide +kernel
theorem d_M_common_24 : decode c_M_common 24 = .ok (.lload 8, 2) := by decide +kernel
theorem d_M_common_26 : decode c_M_common 26 = .ok (.lstore 6, 2) := by decide +kernel
theorem d_M_common_28 : decode c_M_common 28 = .ok (.goto (-22), 3) := by decide +kernel
theorem d_M_common_31 : decode c_M_common 31 = .ok (.lload 4, 2) := by decide +kernel
theorem d_M_common_33 : decode c_M_common 33 = .ok (.lreturn, 1) := by decide +kernel
theorem d_M_worst_0 : decode c_M_worst 0 = .ok (.aload_n 0, 1) := by decide +kernel
theorem d_M_worst_1 : decode c_M_worst 1 = .ok (.iload_n 1, 1) := by decide +kernel
theorem d_M_worst_2 : decode c_M_worst 2 = .ok (.invokevirtual 92, 3) := by decide +kernel
theorem d_M_worst_5 : decode c_M_worst 5 = .ok (.ifCond .eq (36), 3) := by decide +kernel
theorem d_M_worst_8 : decode c_M_worst 8 = .ok (.iload_n 2, 1) := by decide +kernel
theorem d_M_worst_9 : decode c_M_worst 9 = .ok (.i2l, 1) := by decide +kernel
theorem d_M_worst_10 : decode c_M_worst 10 = .ok (.lconst 0, 1) := by decide +kernel
theorem d_M_worst_11 : decode c_M_worst 11 = .ok (.ldc2_w 86, 3) := by decide +kernel
theorem d_M_worst_14 : decode c_M_worst 14 = .ok (.invokestatic 63, 3) := by decide +kernel
theorem d_M_worst_17 : decode c_M_worst 17 = .ok (.ifCond .eq (24), 3) := by decide +kernel
theorem d_M_worst_20 : decode c_M_worst 20 = .ok (.iload_n 3, 1) := by decide +kernel
theorem d_M_worst_21 : decode c_M_worst 21 = .ok (.i2l, 1) := by decide +kernel
theorem d_M_worst_22 : decode c_M_worst 22 = .ok (.lconst 0, 1) := by decide +kernel
theorem d_M_worst_23 : decode c_M_worst 23 = .ok (.lconst 1, 1) := by decide +kernel
theorem d_M_worst_24 : decode c_M_worst 24 = .ok (.invokestatic 63, 3) := by decide +kernel
theorem d_M_worst_27 : decode c_M_worst 27 = .ok (.ifCond .eq (14), 3) := by decide +kernel
theorem d_M_worst_30 : decode c_M_worst 30 = .ok (.iload 4, 2) := by decide +kernel
theorem d_M_worst_32 : decode c_M_worst 32 = .ok (.i2l, 1) := by decide +kernel
theorem d_M_worst_33 : decode c_M_worst 33 = .ok (.lconst 0, 1) := by decide +kernel
theorem d_M_worst_34 : decode c_M_worst 34 = .ok (.lconst 1, 1) := by decide +kernel
theorem d_M_worst_35 : decode c_M_worst 35 = .ok (.invokestatic 63, 3) := by decide +kernel
theorem d_M_worst_38 : decode c_M_worst 38 = .ok (.ifCond .ne (7), 3) := by decide +kernel
theorem d_M_worst_41 : decode c_M_worst 41 = .ok (.iconst 1, 1) := by decide +kernel
theorem d_M_worst_42 : decode c_M_worst 42 = .ok (.goto (4), 3) := by decide +kernel
theorem d_M_worst_45 : decode c_M_worst 45 = .ok (.iconst 0, 1) := by decide +kernel
theorem d_M_worst_46 : decode c_M_worst 46 = .ok (.istore 5, 2) := by decide +kernel
theorem d_M_worst_48 : decode c_M_worst 48 = .ok (.lconst 0, 1) := by decide +kernel
theorem d_M_worst_49 : decode c_M_worst 49 = .ok (.lstore 6, 2) := by decide +kernel
theorem d_M_worst_51 : decode c_M_worst 51 = .ok (.lconst 0, 1) := by decide +kernel
theorem d_M_worst_52 : decode c_M_worst 52 = .ok (.lstore 8, 2) := by decide +kernel
theorem d_M_worst_54 : decode c_M_worst 54 = .ok (.iconst 0, 1) := by decide +kernel
theorem d_M_worst_55 : decode c_M_worst 55 = .ok (.istore 10, 2) := by decide +kernel
theorem d_M_worst_57 : decode c_M_worst 57 = .ok (.iload 5, 2) := by decide +kernel
theorem d_M_worst_59 : decode c_M_worst 59 = .ok (.ifCond .ne (86), 3) := by decide +kernel
theorem d_M_worst_62 : decode c_M_worst 62 = .ok (.iload 10, 2) := by decide +kernel
theorem d_M_worst_64 : decode c_M_worst 64 = .ok (.aload_n 0, 1) := by decide +kernel
theorem d_M_worst_65 : decode c_M_worst 65 = .ok (.getfield 60, 3) := by decide +kernel
theorem d_M_worst_68 : decode c_M_worst 68 = .ok (.if_icmp .ge (77), 3) := by decide +kernel
theorem d_M_worst_71 : decode c_M_worst 71 = .ok (.aload_n 0, 1) := by decide +kernel
theorem d_M_worst_72 : decode c_M_worst 72 = .ok (.getfield 46, 3) := by decide +kernel
theorem d_M_worst_75 : decode c_M_worst 75 = .ok (.iconst 5, 1) := by decide +kernel
theorem d_M_worst_76 : decode c_M_worst 76 = .ok (.iload_n 1, 1) := by decide +kernel
theorem d_M_worst_77 : decode c_M_worst 77 = .ok (.imul, 1) := by decide +kernel
theorem d_M_worst_78 : decode c_M_worst 78 = .ok (.iload 10, 2) := by decide +kernel
theorem d_M_worst_80 : decode c_M_worst 80 = .ok (.iadd, 1) := by decide +kernel
theorem d_M_worst_81 : decode c_M_worst 81 = .ok (.iaload, 1) := by decide +kernel
theorem d_M_worst_82 : decode c_M_worst 82 = .ok (.i2l, 1) := by decide +kernel
theorem d_M_worst_83 : decode c_M_worst 83 = .ok (.aload_n 0, 1) := by decide +kernel
theorem d_M_worst_84 : decode c_M_worst 84 = .ok (.getfield 7, 3) := by decide +kernel
theorem d_M_worst_87 : decode c_M_worst 87 = .ok (.iload 10, 2) := by decide +kernel
theorem d_M_worst_89 : decode c_M_worst 89 = .ok (.iaload, 1) := by decide +kernel
theorem d_M_worst_90 : decode c_M_worst 90 = .ok (.i2l, 1) := by decide +kernel
theorem d_M_worst_91 : decode c_M_worst 91 = .ok (.lmul, 1) := by decide +kernel
theorem d_M_worst_92 : decode c_M_worst 92 = .ok (.lstore 11, 2) := by decide +kernel
theorem d_M_worst_94 : decode c_M_worst 94 = .ok (.lload 6, 2) := by decide +kernel
theorem d_M_worst_96 : decode c_M_worst 96 = .ok (.lload 11, 2) := by decide +kernel
theorem d_M_worst_98 : decode c_M_worst 98 = .ok (.iload_n 3, 1) := by decide +kernel
theorem d_M_worst_99 : decode c_M_worst 99 = .ok (.ifCond .ne (17), 3) := by decide +kernel
theorem d_M_worst_102 : decode c_M_worst 102 = .ok (.aload_n 0, 1) := by decide +kernel
theorem d_M_worst_103 : decode c_M_worst 103 = .ok (.getfield 22, 3) := by decide +kernel
theorem d_M_worst_106 : decode c_M_worst 106 = .ok (.iconst 4, 1) := by decide +kernel
theorem d_M_worst_107 : decode c_M_worst 107 = .ok (.iload 10, 2) := by decide +kernel
theorem d_M_worst_109 : decode c_M_worst 109 = .ok (.imul, 1) := by decide +kernel
theorem d_M_worst_110 : decode c_M_worst 110 = .ok (.iload_n 2, 1) := by decide +kernel
theorem d_M_worst_111 : decode c_M_worst 111 = .ok (.iadd, 1) := by decide +kernel
theorem d_M_worst_112 : decode c_M_worst 112 = .ok (.iaload, 1) := by decide +kernel
theorem d_M_worst_113 : decode c_M_worst 113 = .ok (.goto (14), 3) := by decide +kernel
theorem d_M_worst_116 : decode c_M_worst 116 = .ok (.aload_n 0, 1) := by decide +kernel
theorem d_M_worst_117 : decode c_M_worst 117 = .ok (.getfield 25, 3) := by decide +kernel
theorem d_M_worst_120 : decode c_M_worst 120 = .ok (.iconst 4, 1) := by decide +kernel
theorem d_M_worst_121 : decode c_M_worst 121 = .ok (.iload 10, 2) := by decide +kernel
theorem d_M_worst_123 : decode c_M_worst 123 = .ok (.imul, 1) := by decide +kernel
theorem d_M_worst_124 : decode c_M_worst 124 = .ok (.iload_n 2, 1) := by decide +kernel
theorem d_M_worst_125 : decode c_M_worst 125 = .ok (.iadd, 1) := by decide +kernel
theorem d_M_worst_126 : decode c_M_worst 126 = .ok (.iaload, 1) := by decide +kernel
theorem d_M_worst_127 : decode c_M_worst 127 = .ok (.i2l, 1) := by decide +kernel
theorem d_M_worst_128 : decode c_M_worst 128 = .ok (.lmul, 1) := by decide +kernel
theorem d_M_worst_129 : decode c_M_worst 129 = .ok (.ladd, 1) := by decide +kernel
theorem d_M_worst_130 : decode c_M_worst 130 = .ok (.lstore 6, 2) := by decide +kernel
theorem d_M_worst_132 : decode c_M_worst 132 = .ok (.lload 8, 2) := by decide +kernel
theorem d_M_worst_134 : decode c_M_worst 134 = .ok (.lload 11, 2) := by decide +kernel
theorem d_M_worst_136 : decode c_M_worst 136 = .ok (.ladd, 1) := by decide +kernel
theorem d_M_worst_137 : decode c_M_worst 137 = .ok (.lstore 8, 2) := by decide +kernel
theorem d_M_worst_139 : decode c_M_worst 139 = .ok (.iinc 10 (1), 3) := by decide +kernel
theorem d_M_worst_142 : decode c_M_worst 142 = .ok (.goto (-85), 3) := by decide +kernel
theorem d_M_worst_145 : decode c_M_worst 145 = .ok (.aload_n 0, 1) := by decide +kernel
theorem d_M_worst_146 : decode c_M_worst 146 = .ok (.iload 5, 2) := by decide +kernel
theorem d_M_worst_148 : decode c_M_worst 148 = .ok (.aload_n 0, 1) := by decide +kernel
theorem d_M_worst_149 : decode c_M_worst 149 = .ok (.iload_n 1, 1) := by decide +kernel
theorem d_M_worst_150 : decode c_M_worst 150 = .ok (.invokevirtual 122, 3) := by decide +kernel
theorem d_M_worst_153 : decode c_M_worst 153 = .ok (.ifCond .ne (7), 3) := by decide +kernel
theorem d_M_worst_156 : decode c_M_worst 156 = .ok (.iconst 1, 1) := by decide +kernel
theorem d_M_worst_157 : decode c_M_worst 157 = .ok (.goto (4), 3) := by decide +kernel
theorem d_M_worst_160 : decode c_M_worst 160 = .ok (.iconst 0, 1) := by decide +kernel
theorem d_M_worst_161 : decode c_M_worst 161 = .ok (.lload 8, 2) := by decide +kernel
theorem d_M_worst_163 : decode c_M_worst 163 = .ok (.lconst 0, 1) := by decide +kernel
theorem d_M_worst_164 : decode c_M_worst 164 = .ok (.lcmp, 1) := by decide +kernel
theorem d_M_worst_165 : decode c_M_worst 165 = .ok (.ifCond .ne (7), 3) := by decide +kernel
theorem d_M_worst_168 : decode c_M_worst 168 = .ok (.iconst 1, 1) := by decide +kernel
theorem d_M_worst_169 : decode c_M_worst 169 = .ok (.goto (4), 3) := by decide +kernel
theorem d_M_worst_172 : decode c_M_worst 172 = .ok (.iconst 0, 1) := by decide +kernel
theorem d_M_worst_173 : decode c_M_worst 173 = .ok (.invokevirtual 76, 3) := by decide +kernel
theorem d_M_worst_176 : decode c_M_worst 176 = .ok (.ifCond .eq (5), 3) := by decide +kernel
theorem d_M_worst_179 : decode c_M_worst 179 = .ok (.lconst 0, 1) := by decide +kernel
theorem d_M_worst_180 : decode c_M_worst 180 = .ok (.lreturn, 1) := by decide +kernel
theorem d_M_worst_181 : decode c_M_worst 181 = .ok (.iload 4, 2) := by decide +kernel
theorem d_M_worst_183 : decode c_M_worst 183 = .ok (.ifCond .ne (8), 3) := by decide +kernel
theorem d_M_worst_186 : decode c_M_worst 186 = .ok (.lload 6, 2) := by decide +kernel
theorem d_M_worst_188 : decode c_M_worst 188 = .ok (.goto (5), 3) := by decide +kernel
theorem d_M_worst_191 : decode c_M_worst 191 = .ok (.lload 8, 2) := by decide +kernel
theorem d_M_worst_193 : decode c_M_worst 193 = .ok (.lload 6, 2) := by decide +kernel
theorem d_M_worst_195 : decode c_M_worst 195 = .ok (.lload 8, 2) := by decide +kernel
theorem d_M_worst_197 : decode c_M_worst 197 = .ok (.invokestatic 125, 3) := by decide +kernel
theorem d_M_worst_200 : decode c_M_worst 200 = .ok (.ldiv, 1) := by decide +kernel
theorem d_M_worst_201 : decode c_M_worst 201 = .ok (.lreturn, 1) := by decide +kernel
theorem d_M_bound_0 : decode c_M_bound 0 = .ok (.iconst (-1), 1) := by decide +kernel
theorem d_M_bound_1 : decode c_M_bound 1 = .ok (.istore_n 2, 1) := by decide +kernel
theorem d_M_bound_2 : decode c_M_bound 2 = .ok (.iconst 0, 1) := by decide +kernel
theorem d_M_bound_3 : decode c_M_bound 3 = .ok (.istore_n 3, 1) := by decide +kernel
theorem d_M_bound_4 : decode c_M_bound 4 = .ok (.iload_n 3, 1) := by decide +kernel
theorem d_M_bound_5 : decode c_M_bound 5 = .ok (.aload_n 0, 1) := by decide +kernel
theorem d_M_bound_6 : decode c_M_bound 6 = .ok (.getfield 60, 3) := by decide +kernel
theorem d_M_bound_9 : decode c_M_bound 9 = .ok (.if_icmp .ge (89), 3) := by decide +kernel
theorem d_M_bound_12 : decode c_M_bound 12 = .ok (.iload_n 2, 1) := by decide +kernel
theorem d_M_bound_13 : decode c_M_bound 13 = .ok (.ifCond .lt (53), 3) := by decide +kernel
theorem d_M_bound_16 : decode c_M_bound 16 = .ok (.aload_n 0, 1) := by decide +kernel
theorem d_M_bound_17 : decode c_M_bound 17 = .ok (.getfield 13, 3) := by decide +kernel
theorem d_M_bound_20 : decode c_M_bound 20 = .ok (.iload_n 3, 1) := by decide +kernel
theorem d_M_bound_21 : decode c_M_bound 21 = .ok (.iaload, 1) := by decide +kernel
theorem d_M_bound_22 : decode c_M_bound 22 = .ok (.i2l, 1) := by decide +kernel
theorem d_M_bound_23 : decode c_M_bound 23 = .ok (.aload_n 0, 1) := by decide +kernel
theorem d_M_bound_24 : decode c_M_bound 24 = .ok (.getfield 7, 3) := by decide +kernel
theorem d_M_bound_27 : decode c_M_bound 27 = .ok (.iload_n 2, 1) := by decide +kernel
theorem d_M_bound_28 : decode c_M_bound 28 = .ok (.ifCond .ge (7), 3) := by decide +kernel
theorem d_M_bound_31 : decode c_M_bound 31 = .ok (.iconst 0, 1) := by decide +kernel
theorem d_M_bound_32 : decode c_M_bound 32 = .ok (.goto (4), 3) := by decide +kernel
theorem d_M_bound_35 : decode c_M_bound 35 = .ok (.iload_n 2, 1) := by decide +kernel
theorem d_M_bound_36 : decode c_M_bound 36 = .ok (.iaload, 1) := by decide +kernel
theorem d_M_bound_37 : decode c_M_bound 37 = .ok (.i2l, 1) := by decide +kernel
theorem d_M_bound_38 : decode c_M_bound 38 = .ok (.lmul, 1) := by decide +kernel
theorem d_M_bound_39 : decode c_M_bound 39 = .ok (.aload_n 0, 1) := by decide +kernel
theorem d_M_bound_40 : decode c_M_bound 40 = .ok (.getfield 13, 3) := by decide +kernel
theorem d_M_bound_43 : decode c_M_bound 43 = .ok (.iload_n 2, 1) := by decide +kernel
theorem d_M_bound_44 : decode c_M_bound 44 = .ok (.ifCond .ge (7), 3) := by decide +kernel
theorem d_M_bound_47 : decode c_M_bound 47 = .ok (.iconst 0, 1) := by decide +kernel
theorem d_M_bound_48 : decode c_M_bound 48 = .ok (.goto (4), 3) := by decide +kernel
theorem d_M_bound_51 : decode c_M_bound 51 = .ok (.iload_n 2, 1) := by decide +kernel
theorem d_M_bound_52 : decode c_M_bound 52 = .ok (.iaload, 1) := by decide +kernel
theorem d_M_bound_53 : decode c_M_bound 53 = .ok (.i2l, 1) := by decide +kernel
theorem d_M_bound_54 : decode c_M_bound 54 = .ok (.aload_n 0, 1) := by decide +kernel
theorem d_M_bound_55 : decode c_M_bound 55 = .ok (.getfield 7, 3) := by decide +kernel
theorem d_M_bound_58 : decode c_M_bound 58 = .ok (.iload_n 3, 1) := by decide +kernel
theorem d_M_bound_59 : decode c_M_bound 59 = .ok (.iaload, 1) := by decide +kernel
theorem d_M_bound_60 : decode c_M_bound 60 = .ok (.i2l, 1) := by decide +kernel
theorem d_M_bound_61 : decode c_M_bound 61 = .ok (.lmul, 1) := by decide +kernel
theorem d_M_bound_62 : decode c_M_bound 62 = .ok (.lcmp, 1) := by decide +kernel
theorem d_M_bound_63 : decode c_M_bound 63 = .ok (.ifCond .ge (7), 3) := by decide +kernel
theorem d_M_bound_66 : decode c_M_bound 66 = .ok (.iconst 1, 1) := by decide +kernel
theorem d_M_bound_67 : decode c_M_bound 67 = .ok (.goto (4), 3) := by decide +kernel
theorem d_M_bound_70 : decode c_M_bound 70 = .ok (.iconst 0, 1) := by decide +kernel
theorem d_M_bound_71 : decode c_M_bound 71 = .ok (.istore 4, 2) := by decide +kernel
theorem d_M_bound_73 : decode c_M_bound 73 = .ok (.aload_n 0, 1) := by decide +kernel
theorem d_M_bound_74 : decode c_M_bound 74 = .ok (.iload_n 3, 1) := by decide +kernel
theorem d_M_bound_75 : decode c_M_bound 75 = .ok (.invokevirtual 111, 3) := by decide +kernel
theorem d_M_bound_78 : decode c_M_bound 78 = .ok (.ifCond .le (12), 3) := by decide +kernel
theorem d_M_bound_81 : decode c_M_bound 81 = .ok (.iload 4, 2) := by decide +kernel
theorem d_M_bound_83 : decode c_M_bound 83 = .ok (.ifCond .eq (7), 3) := by decide +kernel
theorem d_M_bound_86 : decode c_M_bound 86 = .ok (.iload_n 3, 1) := by decide +kernel
theorem d_M_bound_87 : decode c_M_bound 87 = .ok (.goto (4), 3) := by decide +kernel
theorem d_M_bound_90 : decode c_M_bound 90 = .ok (.iload_n 2, 1) := by decide +kernel
theorem d_M_bound_91 : decode c_M_bound 91 = .ok (.istore_n 2, 1) := by decide +kernel
theorem d_M_bound_92 : decode c_M_bound 92 = .ok (.iinc 3 (1), 3) := by decide +kernel
theorem d_M_bound_95 : decode c_M_bound 95 = .ok (.goto (-91), 3) := by decide +kernel
theorem d_M_bound_98 : decode c_M_bound 98 = .ok (.aload_n 0, 1) := by decide +kernel
theorem d_M_bound_99 : decode c_M_bound 99 = .ok (.aload_n 0, 1) := by decide +kernel
theorem d_M_bound_100 : decode c_M_bound 100 = .ok (.iload_n 1, 1) := by decide +kernel
theorem d_M_bound_101 : decode c_M_bound 101 = .ok (.invokevirtual 92, 3) := by decide +kernel
theorem d_M_bound_104 : decode c_M_bound 104 = .ok (.ifCond .ne (7), 3) := by decide +kernel
theorem d_M_bound_107 : decode c_M_bound 107 = .ok (.iconst 1, 1) := by decide +kernel
theorem d_M_bound_108 : decode c_M_bound 108 = .ok (.goto (4), 3) := by decide +kernel
end
section
theorem d_M_bound_111 : decode c_M_bound 111 = .ok (.iconst 0, 1) := by decide +kernel
theorem d_M_bound_112 : decode c_M_bound 112 = .ok (.iload_n 2, 1) := by decide +kernel
theorem d_M_bound_113 : decode c_M_bound 113 = .ok (.ifCond .ge (7), 3) := by decide +kernel
theorem d_M_bound_116 : decode c_M_bound 116 = .ok (.iconst 1, 1) := by decide +kernel
theorem d_M_bound_117 : decode c_M_bound 117 = .ok (.goto (4), 3) := by decide +kernel
theorem d_M_bound_120 : decode c_M_bound 120 = .ok (.iconst 0, 1) := by decide +kernel
theorem d_M_bound_121 : decode c_M_bound 121 = .ok (.iconst 0, 1) := by decide +kernel
theorem d_M_bound_122 : decode c_M_bound 122 = .ok (.invokevirtual 76, 3) := by decide +kernel
theorem d_M_bound_125 : decode c_M_bound 125 = .ok (.ifCond .eq (5), 3) := by decide +kernel
theorem d_M_bound_128 : decode c_M_bound 128 = .ok (.lconst 0, 1) := by decide +kernel
theorem d_M_bound_129 : decode c_M_bound 129 = .ok (.lreturn, 1) := by decide +kernel
theorem d_M_bound_130 : decode c_M_bound 130 = .ok (.aload_n 0, 1) := by decide +kernel
theorem d_M_bound_131 : decode c_M_bound 131 = .ok (.getfield 28, 3) := by decide +kernel
theorem d_M_bound_134 : decode c_M_bound 134 = .ok (.iload_n 1, 1) := by decide +kernel
theorem d_M_bound_135 : decode c_M_bound 135 = .ok (.iaload, 1) := by decide +kernel
theorem d_M_bound_136 : decode c_M_bound 136 = .ok (.i2l, 1) := by decide +kernel
theorem d_M_bound_137 : decode c_M_bound 137 = .ok (.aload_n 0, 1) := by decide +kernel
theorem d_M_bound_138 : decode c_M_bound 138 = .ok (.getfield 13, 3) := by decide +kernel
theorem d_M_bound_141 : decode c_M_bound 141 = .ok (.iload_n 2, 1) := by decide +kernel
theorem d_M_bound_142 : decode c_M_bound 142 = .ok (.iaload, 1) := by decide +kernel
theorem d_M_bound_143 : decode c_M_bound 143 = .ok (.i2l, 1) := by decide +kernel
theorem d_M_bound_144 : decode c_M_bound 144 = .ok (.lmul, 1) := by decide +kernel
theorem d_M_bound_145 : decode c_M_bound 145 = .ok (.aload_n 0, 1) := by decide +kernel
theorem d_M_bound_146 : decode c_M_bound 146 = .ok (.getfield 7, 3) := by decide +kernel
theorem d_M_bound_149 : decode c_M_bound 149 = .ok (.iload_n 2, 1) := by decide +kernel
theorem d_M_bound_150 : decode c_M_bound 150 = .ok (.iaload, 1) := by decide +kernel
theorem d_M_bound_151 : decode c_M_bound 151 = .ok (.i2l, 1) := by decide +kernel
theorem d_M_bound_152 : decode c_M_bound 152 = .ok (.ladd, 1) := by decide +kernel
theorem d_M_bound_153 : decode c_M_bound 153 = .ok (.lconst 1, 1) := by decide +kernel
theorem d_M_bound_154 : decode c_M_bound 154 = .ok (.lsub, 1) := by decide +kernel
theorem d_M_bound_155 : decode c_M_bound 155 = .ok (.aload_n 0, 1) := by decide +kernel
theorem d_M_bound_156 : decode c_M_bound 156 = .ok (.getfield 7, 3) := by decide +kernel
theorem d_M_bound_159 : decode c_M_bound 159 = .ok (.iload_n 2, 1) := by decide +kernel
theorem d_M_bound_160 : decode c_M_bound 160 = .ok (.iaload, 1) := by decide +kernel
theorem d_M_bound_161 : decode c_M_bound 161 = .ok (.i2l, 1) := by decide +kernel
theorem d_M_bound_162 : decode c_M_bound 162 = .ok (.ldiv, 1) := by decide +kernel
theorem d_M_bound_163 : decode c_M_bound 163 = .ok (.lreturn, 1) := by decide +kernel
theorem d_M_lookAtAll_0 : decode c_M_lookAtAll 0 = .ok (.iconst 0, 1) := by decide +kernel
theorem d_M_lookAtAll_1 : decode c_M_lookAtAll 1 = .ok (.istore_n 2, 1) := by decide +kernel
theorem d_M_lookAtAll_2 : decode c_M_lookAtAll 2 = .ok (.iload_n 2, 1) := by decide +kernel
theorem d_M_lookAtAll_3 : decode c_M_lookAtAll 3 = .ok (.sipush (2048), 3) := by decide +kernel
theorem d_M_lookAtAll_6 : decode c_M_lookAtAll 6 = .ok (.if_icmp .ge (16), 3) := by decide +kernel
theorem d_M_lookAtAll_9 : decode c_M_lookAtAll 9 = .ok (.aload_n 0, 1) := by decide +kernel
theorem d_M_lookAtAll_10 : decode c_M_lookAtAll 10 = .ok (.getfield 52, 3) := by decide +kernel
theorem d_M_lookAtAll_13 : decode c_M_lookAtAll 13 = .ok (.iload_n 2, 1) := by decide +kernel
theorem d_M_lookAtAll_14 : decode c_M_lookAtAll 14 = .ok (.iconst 0, 1) := by decide +kernel
theorem d_M_lookAtAll_15 : decode c_M_lookAtAll 15 = .ok (.bastore, 1) := by decide +kernel
theorem d_M_lookAtAll_16 : decode c_M_lookAtAll 16 = .ok (.iinc 2 (1), 3) := by decide +kernel
theorem d_M_lookAtAll_19 : decode c_M_lookAtAll 19 = .ok (.goto (-17), 3) := by decide +kernel
theorem d_M_lookAtAll_22 : decode c_M_lookAtAll 22 = .ok (.iconst 0, 1) := by decide +kernel
theorem d_M_lookAtAll_23 : decode c_M_lookAtAll 23 = .ok (.istore_n 2, 1) := by decide +kernel
theorem d_M_lookAtAll_24 : decode c_M_lookAtAll 24 = .ok (.iload_n 2, 1) := by decide +kernel
theorem d_M_lookAtAll_25 : decode c_M_lookAtAll 25 = .ok (.iconst 5, 1) := by decide +kernel
theorem d_M_lookAtAll_26 : decode c_M_lookAtAll 26 = .ok (.if_icmp .ge (16), 3) := by decide +kernel
theorem d_M_lookAtAll_29 : decode c_M_lookAtAll 29 = .ok (.aload_n 0, 1) := by decide +kernel
theorem d_M_lookAtAll_30 : decode c_M_lookAtAll 30 = .ok (.getfield 49, 3) := by decide +kernel
theorem d_M_lookAtAll_33 : decode c_M_lookAtAll 33 = .ok (.iload_n 2, 1) := by decide +kernel
theorem d_M_lookAtAll_34 : decode c_M_lookAtAll 34 = .ok (.iconst 0, 1) := by decide +kernel
theorem d_M_lookAtAll_35 : decode c_M_lookAtAll 35 = .ok (.iastore, 1) := by decide +kernel
theorem d_M_lookAtAll_36 : decode c_M_lookAtAll 36 = .ok (.iinc 2 (1), 3) := by decide +kernel
theorem d_M_lookAtAll_39 : decode c_M_lookAtAll 39 = .ok (.goto (-15), 3) := by decide +kernel
theorem d_M_lookAtAll_42 : decode c_M_lookAtAll 42 = .ok (.iconst 1, 1) := by decide +kernel
theorem d_M_lookAtAll_43 : decode c_M_lookAtAll 43 = .ok (.istore_n 2, 1) := by decide +kernel
theorem d_M_lookAtAll_44 : decode c_M_lookAtAll 44 = .ok (.iload_n 2, 1) := by decide +kernel
theorem d_M_lookAtAll_45 : decode c_M_lookAtAll 45 = .ok (.ifCond .eq (79), 3) := by decide +kernel
theorem d_M_lookAtAll_48 : decode c_M_lookAtAll 48 = .ok (.aload_n 0, 1) := by decide +kernel
theorem d_M_lookAtAll_49 : decode c_M_lookAtAll 49 = .ok (.getfield 52, 3) := by decide +kernel
theorem d_M_lookAtAll_52 : decode c_M_lookAtAll 52 = .ok (.aload_n 0, 1) := by decide +kernel
theorem d_M_lookAtAll_53 : decode c_M_lookAtAll 53 = .ok (.iload_n 1, 1) := by decide +kernel
theorem d_M_lookAtAll_54 : decode c_M_lookAtAll 54 = .ok (.invokevirtual 115, 3) := by decide +kernel
theorem d_M_lookAtAll_57 : decode c_M_lookAtAll 57 = .ok (.iconst 1, 1) := by decide +kernel
theorem d_M_lookAtAll_58 : decode c_M_lookAtAll 58 = .ok (.bastore, 1) := by decide +kernel
theorem d_M_lookAtAll_59 : decode c_M_lookAtAll 59 = .ok (.aload_n 0, 1) := by decide +kernel
theorem d_M_lookAtAll_60 : decode c_M_lookAtAll 60 = .ok (.getfield 60, 3) := by decide +kernel
theorem d_M_lookAtAll_63 : decode c_M_lookAtAll 63 = .ok (.iconst 1, 1) := by decide +kernel
theorem d_M_lookAtAll_64 : decode c_M_lookAtAll 64 = .ok (.isub, 1) := by decide +kernel
theorem d_M_lookAtAll_65 : decode c_M_lookAtAll 65 = .ok (.istore_n 3, 1) := by decide +kernel
theorem d_M_lookAtAll_66 : decode c_M_lookAtAll 66 = .ok (.iload_n 3, 1) := by decide +kernel
theorem d_M_lookAtAll_67 : decode c_M_lookAtAll 67 = .ok (.ifCond .lt (30), 3) := by decide +kernel
theorem d_M_lookAtAll_70 : decode c_M_lookAtAll 70 = .ok (.aload_n 0, 1) := by decide +kernel
theorem d_M_lookAtAll_71 : decode c_M_lookAtAll 71 = .ok (.getfield 49, 3) := by decide +kernel
theorem d_M_lookAtAll_74 : decode c_M_lookAtAll 74 = .ok (.iload_n 3, 1) := by decide +kernel
theorem d_M_lookAtAll_75 : decode c_M_lookAtAll 75 = .ok (.iaload, 1) := by decide +kernel
theorem d_M_lookAtAll_76 : decode c_M_lookAtAll 76 = .ok (.aload_n 0, 1) := by decide +kernel
theorem d_M_lookAtAll_77 : decode c_M_lookAtAll 77 = .ok (.iload_n 3, 1) := by decide +kernel
theorem d_M_lookAtAll_78 : decode c_M_lookAtAll 78 = .ok (.invokevirtual 111, 3) := by decide +kernel
theorem d_M_lookAtAll_81 : decode c_M_lookAtAll 81 = .ok (.if_icmp .ne (16), 3) := by decide +kernel
theorem d_M_lookAtAll_84 : decode c_M_lookAtAll 84 = .ok (.aload_n 0, 1) := by decide +kernel
theorem d_M_lookAtAll_85 : decode c_M_lookAtAll 85 = .ok (.getfield 49, 3) := by decide +kernel
theorem d_M_lookAtAll_88 : decode c_M_lookAtAll 88 = .ok (.iload_n 3, 1) := by decide +kernel
theorem d_M_lookAtAll_89 : decode c_M_lookAtAll 89 = .ok (.iconst 0, 1) := by decide +kernel
theorem d_M_lookAtAll_90 : decode c_M_lookAtAll 90 = .ok (.iastore, 1) := by decide +kernel
theorem d_M_lookAtAll_91 : decode c_M_lookAtAll 91 = .ok (.iinc 3 (-1), 3) := by decide +kernel
theorem d_M_lookAtAll_94 : decode c_M_lookAtAll 94 = .ok (.goto (-28), 3) := by decide +kernel
theorem d_M_lookAtAll_97 : decode c_M_lookAtAll 97 = .ok (.iload_n 3, 1) := by decide +kernel
theorem d_M_lookAtAll_98 : decode c_M_lookAtAll 98 = .ok (.ifCond .lt (7), 3) := by decide +kernel
theorem d_M_lookAtAll_101 : decode c_M_lookAtAll 101 = .ok (.iconst 1, 1) := by decide +kernel
theorem d_M_lookAtAll_102 : decode c_M_lookAtAll 102 = .ok (.goto (4), 3) := by decide +kernel
theorem d_M_lookAtAll_105 : decode c_M_lookAtAll 105 = .ok (.iconst 0, 1) := by decide +kernel
theorem d_M_lookAtAll_106 : decode c_M_lookAtAll 106 = .ok (.istore_n 2, 1) := by decide +kernel
theorem d_M_lookAtAll_107 : decode c_M_lookAtAll 107 = .ok (.iload_n 2, 1) := by decide +kernel
theorem d_M_lookAtAll_108 : decode c_M_lookAtAll 108 = .ok (.ifCond .eq (13), 3) := by decide +kernel
theorem d_M_lookAtAll_111 : decode c_M_lookAtAll 111 = .ok (.aload_n 0, 1) := by decide +kernel
theorem d_M_lookAtAll_112 : decode c_M_lookAtAll 112 = .ok (.getfield 49, 3) := by decide +kernel
theorem d_M_lookAtAll_115 : decode c_M_lookAtAll 115 = .ok (.iload_n 3, 1) := by decide +kernel
theorem d_M_lookAtAll_116 : decode c_M_lookAtAll 116 = .ok (.dup2, 1) := by decide +kernel
theorem d_M_lookAtAll_117 : decode c_M_lookAtAll 117 = .ok (.iaload, 1) := by decide +kernel
theorem d_M_lookAtAll_118 : decode c_M_lookAtAll 118 = .ok (.iconst 1, 1) := by decide +kernel
theorem d_M_lookAtAll_119 : decode c_M_lookAtAll 119 = .ok (.iadd, 1) := by decide +kernel
theorem d_M_lookAtAll_120 : decode c_M_lookAtAll 120 = .ok (.iastore, 1) := by decide +kernel
theorem d_M_lookAtAll_121 : decode c_M_lookAtAll 121 = .ok (.goto (-77), 3) := by decide +kernel
theorem d_M_lookAtAll_124 : decode c_M_lookAtAll 124 = .ok (.return_, 1) := by decide +kernel
theorem d_M_isSome_0 : decode c_M_isSome 0 = .ok (.iconst 0, 1) := by decide +kernel
theorem d_M_isSome_1 : decode c_M_isSome 1 = .ok (.istore_n 2, 1) := by decide +kernel
theorem d_M_isSome_2 : decode c_M_isSome 2 = .ok (.iconst 0, 1) := by decide +kernel
theorem d_M_isSome_3 : decode c_M_isSome 3 = .ok (.istore_n 3, 1) := by decide +kernel
theorem d_M_isSome_4 : decode c_M_isSome 4 = .ok (.iload_n 3, 1) := by decide +kernel
theorem d_M_isSome_5 : decode c_M_isSome 5 = .ok (.sipush (2048), 3) := by decide +kernel
theorem d_M_isSome_8 : decode c_M_isSome 8 = .ok (.if_icmp .ge (36), 3) := by decide +kernel
theorem d_M_isSome_11 : decode c_M_isSome 11 = .ok (.iload_n 2, 1) := by decide +kernel
theorem d_M_isSome_12 : decode c_M_isSome 12 = .ok (.ifCond .ne (20), 3) := by decide +kernel
theorem d_M_isSome_15 : decode c_M_isSome 15 = .ok (.aload_n 0, 1) := by decide +kernel
theorem d_M_isSome_16 : decode c_M_isSome 16 = .ok (.getfield 52, 3) := by decide +kernel
theorem d_M_isSome_19 : decode c_M_isSome 19 = .ok (.iload_n 3, 1) := by decide +kernel
theorem d_M_isSome_20 : decode c_M_isSome 20 = .ok (.baload, 1) := by decide +kernel
theorem d_M_isSome_21 : decode c_M_isSome 21 = .ok (.ifCond .eq (15), 3) := by decide +kernel
theorem d_M_isSome_24 : decode c_M_isSome 24 = .ok (.iload_n 3, 1) := by decide +kernel
theorem d_M_isSome_25 : decode c_M_isSome 25 = .ok (.iload_n 1, 1) := by decide +kernel
theorem d_M_isSome_26 : decode c_M_isSome 26 = .ok (.iconst (-1), 1) := by decide +kernel
theorem d_M_isSome_27 : decode c_M_isSome 27 = .ok (.ixor, 1) := by decide +kernel
theorem d_M_isSome_28 : decode c_M_isSome 28 = .ok (.iand, 1) := by decide +kernel
theorem d_M_isSome_29 : decode c_M_isSome 29 = .ok (.ifCond .ne (7), 3) := by decide +kernel
theorem d_M_isSome_32 : decode c_M_isSome 32 = .ok (.iconst 1, 1) := by decide +kernel
theorem d_M_isSome_33 : decode c_M_isSome 33 = .ok (.goto (4), 3) := by decide +kernel
theorem d_M_isSome_36 : decode c_M_isSome 36 = .ok (.iconst 0, 1) := by decide +kernel
theorem d_M_isSome_37 : decode c_M_isSome 37 = .ok (.istore_n 2, 1) := by decide +kernel
theorem d_M_isSome_38 : decode c_M_isSome 38 = .ok (.iinc 3 (1), 3) := by decide +kernel
theorem d_M_isSome_41 : decode c_M_isSome 41 = .ok (.goto (-37), 3) := by decide +kernel
theorem d_M_isSome_44 : decode c_M_isSome 44 = .ok (.iload_n 2, 1) := by decide +kernel
theorem d_M_isSome_45 : decode c_M_isSome 45 = .ok (.ireturn, 1) := by decide +kernel
theorem d_M_clash_0 : decode c_M_clash 0 = .ok (.aload_n 0, 1) := by decide +kernel
theorem d_M_clash_1 : decode c_M_clash 1 = .ok (.aload_n 0, 1) := by decide +kernel
theorem d_M_clash_2 : decode c_M_clash 2 = .ok (.iload_n 1, 1) := by decide +kernel
theorem d_M_clash_3 : decode c_M_clash 3 = .ok (.invokevirtual 92, 3) := by decide +kernel
theorem d_M_clash_6 : decode c_M_clash 6 = .ok (.ifCond .ne (7), 3) := by decide +kernel
theorem d_M_clash_9 : decode c_M_clash 9 = .ok (.iconst 1, 1) := by decide +kernel
theorem d_M_clash_10 : decode c_M_clash 10 = .ok (.goto (4), 3) := by decide +kernel
theorem d_M_clash_13 : decode c_M_clash 13 = .ok (.iconst 0, 1) := by decide +kernel
theorem d_M_clash_14 : decode c_M_clash 14 = .ok (.iconst 0, 1) := by decide +kernel
theorem d_M_clash_15 : decode c_M_clash 15 = .ok (.iconst 0, 1) := by decide +kernel
theorem d_M_clash_16 : decode c_M_clash 16 = .ok (.invokevirtual 76, 3) := by decide +kernel
theorem d_M_clash_19 : decode c_M_clash 19 = .ok (.ifCond .eq (5), 3) := by decide +kernel
theorem d_M_clash_22 : decode c_M_clash 22 = .ok (.iconst 0, 1) := by decide +kernel
theorem d_M_clash_23 : decode c_M_clash 23 = .ok (.ireturn, 1) := by decide +kernel
theorem d_M_clash_24 : decode c_M_clash 24 = .ok (.aload_n 0, 1) := by decide +kernel
theorem d_M_clash_25 : decode c_M_clash 25 = .ok (.iload_n 1, 1) := by decide +kernel
theorem d_M_clash_26 : decode c_M_clash 26 = .ok (.invokevirtual 129, 3) := by decide +kernel
theorem d_M_clash_29 : decode c_M_clash 29 = .ok (.aload_n 0, 1) := by decide +kernel
theorem d_M_clash_30 : decode c_M_clash 30 = .ok (.iconst 0, 1) := by decide +kernel
theorem d_M_clash_31 : decode c_M_clash 31 = .ok (.invokevirtual 132, 3) := by decide +kernel
theorem d_M_clash_34 : decode c_M_clash 34 = .ok (.ifCond .eq (5), 3) := by decide +kernel
theorem d_M_clash_37 : decode c_M_clash 37 = .ok (.iconst 0, 1) := by decide +kernel
theorem d_M_clash_38 : decode c_M_clash 38 = .ok (.ireturn, 1) := by decide +kernel
theorem d_M_clash_39 : decode c_M_clash 39 = .ok (.iconst 0, 1) := by decide +kernel
theorem d_M_clash_40 : decode c_M_clash 40 = .ok (.istore_n 2, 1) := by decide +kernel
theorem d_M_clash_41 : decode c_M_clash 41 = .ok (.iconst 0, 1) := by decide +kernel
theorem d_M_clash_42 : decode c_M_clash 42 = .ok (.istore_n 3, 1) := by decide +kernel
theorem d_M_clash_43 : decode c_M_clash 43 = .ok (.iload_n 3, 1) := by decide +kernel
theorem d_M_clash_44 : decode c_M_clash 44 = .ok (.bipush (11), 2) := by decide +kernel
theorem d_M_clash_46 : decode c_M_clash 46 = .ok (.if_icmp .ge (31), 3) := by decide +kernel
theorem d_M_clash_49 : decode c_M_clash 49 = .ok (.iload_n 2, 1) := by decide +kernel
theorem d_M_clash_50 : decode c_M_clash 50 = .ok (.aload_n 0, 1) := by decide +kernel
theorem d_M_clash_51 : decode c_M_clash 51 = .ok (.iload_n 2, 1) := by decide +kernel
theorem d_M_clash_52 : decode c_M_clash 52 = .ok (.iconst 1, 1) := by decide +kernel
theorem d_M_clash_53 : decode c_M_clash 53 = .ok (.iload_n 3, 1) := by decide +kernel
theorem d_M_clash_54 : decode c_M_clash 54 = .ok (.ishl, 1) := by decide +kernel
theorem d_M_clash_55 : decode c_M_clash 55 = .ok (.ior, 1) := by decide +kernel
theorem d_M_clash_56 : decode c_M_clash 56 = .ok (.invokevirtual 132, 3) := by decide +kernel
theorem d_M_clash_59 : decode c_M_clash 59 = .ok (.ifCond .eq (7), 3) := by decide +kernel
theorem d_M_clash_62 : decode c_M_clash 62 = .ok (.iconst 0, 1) := by decide +kernel
theorem d_M_clash_63 : decode c_M_clash 63 = .ok (.goto (6), 3) := by decide +kernel
theorem d_M_clash_66 : decode c_M_clash 66 = .ok (.iconst 1, 1) := by decide +kernel
theorem d_M_clash_67 : decode c_M_clash 67 = .ok (.iload_n 3, 1) := by decide +kernel
theorem d_M_clash_68 : decode c_M_clash 68 = .ok (.ishl, 1) := by decide +kernel
theorem d_M_clash_69 : decode c_M_clash 69 = .ok (.ior, 1) := by decide +kernel
theorem d_M_clash_70 : decode c_M_clash 70 = .ok (.istore_n 2, 1) := by decide +kernel
theorem d_M_clash_71 : decode c_M_clash 71 = .ok (.iinc 3 (1), 3) := by decide +kernel
theorem d_M_clash_74 : decode c_M_clash 74 = .ok (.goto (-31), 3) := by decide +kernel
theorem d_M_clash_77 : decode c_M_clash 77 = .ok (.sipush (2047), 3) := by decide +kernel
theorem d_M_clash_80 : decode c_M_clash 80 = .ok (.iload_n 2, 1) := by decide +kernel
theorem d_M_clash_81 : decode c_M_clash 81 = .ok (.iconst (-1), 1) := by decide +kernel
theorem d_M_clash_82 : decode c_M_clash 82 = .ok (.ixor, 1) := by decide +kernel
theorem d_M_clash_83 : decode c_M_clash 83 = .ok (.iand, 1) := by decide +kernel
theorem d_M_clash_84 : decode c_M_clash 84 = .ok (.ireturn, 1) := by decide +kernel
theorem d_M_take_0 : decode c_M_take 0 = .ok (.aload_n 0, 1) := by decide +kernel
theorem d_M_take_1 : decode c_M_take 1 = .ok (.iload_n 1, 1) := by decide +kernel
theorem d_M_take_2 : decode c_M_take 2 = .ok (.invokevirtual 92, 3) := by decide +kernel
theorem d_M_take_5 : decode c_M_take 5 = .ok (.ifCond .ne (7), 3) := by decide +kernel
theorem d_M_take_8 : decode c_M_take 8 = .ok (.iconst 1, 1) := by decide +kernel
theorem d_M_take_9 : decode c_M_take 9 = .ok (.goto (4), 3) := by decide +kernel
theorem d_M_take_12 : decode c_M_take 12 = .ok (.iconst 0, 1) := by decide +kernel
theorem d_M_take_13 : decode c_M_take 13 = .ok (.istore_n 2, 1) := by decide +kernel
theorem d_M_take_14 : decode c_M_take 14 = .ok (.iconst 0, 1) := by decide +kernel
theorem d_M_take_15 : decode c_M_take 15 = .ok (.istore_n 3, 1) := by decide +kernel
theorem d_M_take_16 : decode c_M_take 16 = .ok (.iconst 0, 1) := by decide +kernel
theorem d_M_take_17 : decode c_M_take 17 = .ok (.istore 4, 2) := by decide +kernel
theorem d_M_take_19 : decode c_M_take 19 = .ok (.iload_n 2, 1) := by decide +kernel
theorem d_M_take_20 : decode c_M_take 20 = .ok (.ifCond .ne (49), 3) := by decide +kernel
theorem d_M_take_23 : decode c_M_take 23 = .ok (.iload 4, 2) := by decide +kernel
theorem d_M_take_25 : decode c_M_take 25 = .ok (.aload_n 0, 1) := by decide +kernel
theorem d_M_take_26 : decode c_M_take 26 = .ok (.getfield 60, 3) := by decide +kernel
theorem d_M_take_29 : decode c_M_take 29 = .ok (.if_icmp .ge (40), 3) := by decide +kernel
theorem d_M_take_32 : decode c_M_take 32 = .ok (.iload_n 3, 1) := by decide +kernel
theorem d_M_take_33 : decode c_M_take 33 = .ok (.ifCond .ne (24), 3) := by decide +kernel
theorem d_M_take_36 : decode c_M_take 36 = .ok (.aload_n 0, 1) := by decide +kernel
theorem d_M_take_37 : decode c_M_take 37 = .ok (.getfield 46, 3) := by decide +kernel
theorem d_M_take_40 : decode c_M_take 40 = .ok (.iconst 5, 1) := by decide +kernel
theorem d_M_take_41 : decode c_M_take 41 = .ok (.iload_n 1, 1) := by decide +kernel
theorem d_M_take_42 : decode c_M_take 42 = .ok (.imul, 1) := by decide +kernel
theorem d_M_take_43 : decode c_M_take 43 = .ok (.iload 4, 2) := by decide +kernel
theorem d_M_take_45 : decode c_M_take 45 = .ok (.iadd, 1) := by decide +kernel
theorem d_M_take_46 : decode c_M_take 46 = .ok (.iaload, 1) := by decide +kernel
theorem d_M_take_47 : decode c_M_take 47 = .ok (.aload_n 0, 1) := by decide +kernel
theorem d_M_take_48 : decode c_M_take 48 = .ok (.getfield 16, 3) := by decide +kernel
theorem d_M_take_51 : decode c_M_take 51 = .ok (.iload 4, 2) := by decide +kernel
theorem d_M_take_53 : decode c_M_take 53 = .ok (.iaload, 1) := by decide +kernel
theorem d_M_take_54 : decode c_M_take 54 = .ok (.if_icmp .le (7), 3) := by decide +kernel
theorem d_M_take_57 : decode c_M_take 57 = .ok (.iconst 1, 1) := by decide +kernel
theorem d_M_take_58 : decode c_M_take 58 = .ok (.goto (4), 3) := by decide +kernel
theorem d_M_take_61 : decode c_M_take 61 = .ok (.iconst 0, 1) := by decide +kernel
theorem d_M_take_62 : decode c_M_take 62 = .ok (.istore_n 3, 1) := by decide +kernel
theorem d_M_take_63 : decode c_M_take 63 = .ok (.iinc 4 (1), 3) := by decide +kernel
theorem d_M_take_66 : decode c_M_take 66 = .ok (.goto (-47), 3) := by decide +kernel
theorem d_M_take_69 : decode c_M_take 69 = .ok (.aload_n 0, 1) := by decide +kernel
theorem d_M_take_70 : decode c_M_take 70 = .ok (.iload_n 2, 1) := by decide +kernel
theorem d_M_take_71 : decode c_M_take 71 = .ok (.aload_n 0, 1) := by decide +kernel
theorem d_M_take_72 : decode c_M_take 72 = .ok (.iload_n 1, 1) := by decide +kernel
theorem d_M_take_73 : decode c_M_take 73 = .ok (.invokevirtual 122, 3) := by decide +kernel
theorem d_M_take_76 : decode c_M_take 76 = .ok (.ifCond .ne (7), 3) := by decide +kernel
theorem d_M_take_79 : decode c_M_take 79 = .ok (.iconst 1, 1) := by decide +kernel
theorem d_M_take_80 : decode c_M_take 80 = .ok (.goto (4), 3) := by decide +kernel
theorem d_M_take_83 : decode c_M_take 83 = .ok (.iconst 0, 1) := by decide +kernel
theorem d_M_take_84 : decode c_M_take 84 = .ok (.iload_n 3, 1) := by decide +kernel
theorem d_M_take_85 : decode c_M_take 85 = .ok (.invokevirtual 76, 3) := by decide +kernel
theorem d_M_take_88 : decode c_M_take 88 = .ok (.ifCond .eq (5), 3) := by decide +kernel
theorem d_M_take_91 : decode c_M_take 91 = .ok (.iconst 0, 1) := by decide +kernel
theorem d_M_take_92 : decode c_M_take 92 = .ok (.ireturn, 1) := by decide +kernel
theorem d_M_take_93 : decode c_M_take 93 = .ok (.iconst 0, 1) := by decide +kernel
theorem d_M_take_94 : decode c_M_take 94 = .ok (.istore 4, 2) := by decide +kernel
theorem d_M_take_96 : decode c_M_take 96 = .ok (.iload 4, 2) := by decide +kernel
theorem d_M_take_98 : decode c_M_take 98 = .ok (.aload_n 0, 1) := by decide +kernel
theorem d_M_take_99 : decode c_M_take 99 = .ok (.getfield 60, 3) := by decide +kernel
theorem d_M_take_102 : decode c_M_take 102 = .ok (.if_icmp .ge (30), 3) := by decide +kernel
theorem d_M_take_105 : decode c_M_take 105 = .ok (.aload_n 0, 1) := by decide +kernel
theorem d_M_take_106 : decode c_M_take 106 = .ok (.getfield 16, 3) := by decide +kernel
theorem d_M_take_109 : decode c_M_take 109 = .ok (.iload 4, 2) := by decide +kernel
theorem d_M_take_111 : decode c_M_take 111 = .ok (.dup2, 1) := by decide +kernel
theorem d_M_take_112 : decode c_M_take 112 = .ok (.iaload, 1) := by decide +kernel
theorem d_M_take_113 : decode c_M_take 113 = .ok (.aload_n 0, 1) := by decide +kernel
theorem d_M_take_114 : decode c_M_take 114 = .ok (.getfield 46, 3) := by decide +kernel
theorem d_M_take_117 : decode c_M_take 117 = .ok (.iconst 5, 1) := by decide +kernel
theorem d_M_take_118 : decode c_M_take 118 = .ok (.iload_n 1, 1) := by decide +kernel
theorem d_M_take_119 : decode c_M_take 119 = .ok (.imul, 1) := by decide +kernel
theorem d_M_take_120 : decode c_M_take 120 = .ok (.iload 4, 2) := by decide +kernel
theorem d_M_take_122 : decode c_M_take 122 = .ok (.iadd, 1) := by decide +kernel
theorem d_M_take_123 : decode c_M_take 123 = .ok (.iaload, 1) := by decide +kernel
theorem d_M_take_124 : decode c_M_take 124 = .ok (.isub, 1) := by decide +kernel
theorem d_M_take_125 : decode c_M_take 125 = .ok (.iastore, 1) := by decide +kernel
theorem d_M_take_126 : decode c_M_take 126 = .ok (.iinc 4 (1), 3) := by decide +kernel
theorem d_M_take_129 : decode c_M_take 129 = .ok (.goto (-33), 3) := by decide +kernel
theorem d_M_take_132 : decode c_M_take 132 = .ok (.aload_n 0, 1) := by decide +kernel
theorem d_M_take_133 : decode c_M_take 133 = .ok (.getfield 43, 3) := by decide +kernel
theorem d_M_take_136 : decode c_M_take 136 = .ok (.iload_n 1, 1) := by decide +kernel
theorem d_M_take_137 : decode c_M_take 137 = .ok (.iaload, 1) := by decide +kernel
theorem d_M_take_138 : decode c_M_take 138 = .ok (.istore 4, 2) := by decide +kernel
theorem d_M_take_140 : decode c_M_take 140 = .ok (.aload_n 0, 1) := by decide +kernel
theorem d_M_take_141 : decode c_M_take 141 = .ok (.getfield 43, 3) := by decide +kernel
theorem d_M_take_144 : decode c_M_take 144 = .ok (.iload_n 1, 1) := by decide +kernel
theorem d_M_take_145 : decode c_M_take 145 = .ok (.iconst (-1), 1) := by decide +kernel
theorem d_M_take_146 : decode c_M_take 146 = .ok (.iastore, 1) := by decide +kernel
theorem d_M_take_147 : decode c_M_take 147 = .ok (.iload 4, 2) := by decide +kernel
theorem d_M_take_149 : decode c_M_take 149 = .ok (.ireturn, 1) := by decide +kernel
end
section
theorem d_C_init_0 : decode c_C_init 0 = .ok (.aload_n 0, 1) := by decide +kernel
theorem d_C_init_1 : decode c_C_init 1 = .ok (.invokespecial 3, 3) := by decide +kernel
theorem d_C_init_4 : decode c_C_init 4 = .ok (.aload_n 0, 1) := by decide +kernel
theorem d_C_init_5 : decode c_C_init 5 = .ok (.new 9, 3) := by decide +kernel
theorem d_C_init_8 : decode c_C_init 8 = .ok (.dup, 1) := by decide +kernel
theorem d_C_init_9 : decode c_C_init 9 = .ok (.invokespecial 11, 3) := by decide +kernel
theorem d_C_init_12 : decode c_C_init 12 = .ok (.putfield 12, 3) := by decide +kernel
theorem d_C_init_15 : decode c_C_init 15 = .ok (.aload_n 0, 1) := by decide +kernel
theorem d_C_init_16 : decode c_C_init 16 = .ok (.bipush (32), 2) := by decide +kernel
theorem d_C_init_18 : decode c_C_init 18 = .ok (.newarray .long, 2) := by decide +kernel
theorem d_C_init_20 : decode c_C_init 20 = .ok (.putfield 18, 3) := by decide +kernel
theorem d_C_init_23 : decode c_C_init 23 = .ok (.return_, 1) := by decide +kernel
theorem d_C_find_0 : decode c_C_find 0 = .ok (.aload_n 0, 1) := by decide +kernel
theorem d_C_find_1 : decode c_C_find 1 = .ok (.getfield 12, 3) := by decide +kernel
theorem d_C_find_4 : decode c_C_find 4 = .ok (.aload_n 1, 1) := by decide +kernel
theorem d_C_find_5 : decode c_C_find 5 = .ok (.aload_n 2, 1) := by decide +kernel
theorem d_C_find_6 : decode c_C_find 6 = .ok (.iload_n 3, 1) := by decide +kernel
theorem d_C_find_7 : decode c_C_find 7 = .ok (.invokevirtual 22, 3) := by decide +kernel
theorem d_C_find_10 : decode c_C_find 10 = .ok (.iconst 0, 1) := by decide +kernel
theorem d_C_find_11 : decode c_C_find 11 = .ok (.istore 4, 2) := by decide +kernel
theorem d_C_find_13 : decode c_C_find 13 = .ok (.iload 4, 2) := by decide +kernel
theorem d_C_find_15 : decode c_C_find 15 = .ok (.aload_n 0, 1) := by decide +kernel
theorem d_C_find_16 : decode c_C_find 16 = .ok (.getfield 18, 3) := by decide +kernel
theorem d_C_find_19 : decode c_C_find 19 = .ok (.arraylength, 1) := by decide +kernel
theorem d_C_find_20 : decode c_C_find 20 = .ok (.if_icmp .ge (17), 3) := by decide +kernel
theorem d_C_find_23 : decode c_C_find 23 = .ok (.aload_n 0, 1) := by decide +kernel
theorem d_C_find_24 : decode c_C_find 24 = .ok (.getfield 18, 3) := by decide +kernel
theorem d_C_find_27 : decode c_C_find 27 = .ok (.iload 4, 2) := by decide +kernel
theorem d_C_find_29 : decode c_C_find 29 = .ok (.lconst 0, 1) := by decide +kernel
theorem d_C_find_30 : decode c_C_find 30 = .ok (.lastore, 1) := by decide +kernel
theorem d_C_find_31 : decode c_C_find 31 = .ok (.iinc 4 (1), 3) := by decide +kernel
theorem d_C_find_34 : decode c_C_find 34 = .ok (.goto (-21), 3) := by decide +kernel
theorem d_C_find_37 : decode c_C_find 37 = .ok (.aload_n 0, 1) := by decide +kernel
theorem d_C_find_38 : decode c_C_find 38 = .ok (.iconst 0, 1) := by decide +kernel
theorem d_C_find_39 : decode c_C_find 39 = .ok (.putfield 26, 3) := by decide +kernel
theorem d_C_find_42 : decode c_C_find 42 = .ok (.aload_n 0, 1) := by decide +kernel
theorem d_C_find_43 : decode c_C_find 43 = .ok (.iconst 0, 1) := by decide +kernel
theorem d_C_find_44 : decode c_C_find 44 = .ok (.invokevirtual 30, 3) := by decide +kernel
theorem d_C_find_47 : decode c_C_find 47 = .ok (.aload_n 0, 1) := by decide +kernel
theorem d_C_find_48 : decode c_C_find 48 = .ok (.getfield 26, 3) := by decide +kernel
theorem d_C_find_51 : decode c_C_find 51 = .ok (.ifCond .eq (5), 3) := by decide +kernel
theorem d_C_find_54 : decode c_C_find 54 = .ok (.iconst 0, 1) := by decide +kernel
theorem d_C_find_55 : decode c_C_find 55 = .ok (.ireturn, 1) := by decide +kernel
theorem d_C_find_56 : decode c_C_find 56 = .ok (.sipush (2047), 3) := by decide +kernel
theorem d_C_find_59 : decode c_C_find 59 = .ok (.istore 4, 2) := by decide +kernel
theorem d_C_find_61 : decode c_C_find 61 = .ok (.iconst 0, 1) := by decide +kernel
theorem d_C_find_62 : decode c_C_find 62 = .ok (.istore 5, 2) := by decide +kernel
theorem d_C_find_64 : decode c_C_find 64 = .ok (.iload 5, 2) := by decide +kernel
theorem d_C_find_66 : decode c_C_find 66 = .ok (.bipush (11), 2) := by decide +kernel
theorem d_C_find_68 : decode c_C_find 68 = .ok (.if_icmp .ge (33), 3) := by decide +kernel
theorem d_C_find_71 : decode c_C_find 71 = .ok (.iload 4, 2) := by decide +kernel
theorem d_C_find_73 : decode c_C_find 73 = .ok (.iconst 1, 1) := by decide +kernel
theorem d_C_find_74 : decode c_C_find 74 = .ok (.iload 5, 2) := by decide +kernel
theorem d_C_find_76 : decode c_C_find 76 = .ok (.ishl, 1) := by decide +kernel
theorem d_C_find_77 : decode c_C_find 77 = .ok (.iconst (-1), 1) := by decide +kernel
theorem d_C_find_78 : decode c_C_find 78 = .ok (.ixor, 1) := by decide +kernel
theorem d_C_find_79 : decode c_C_find 79 = .ok (.iand, 1) := by decide +kernel
theorem d_C_find_80 : decode c_C_find 80 = .ok (.istore 6, 2) := by decide +kernel
theorem d_C_find_82 : decode c_C_find 82 = .ok (.aload_n 0, 1) := by decide +kernel
theorem d_C_find_83 : decode c_C_find 83 = .ok (.iload 6, 2) := by decide +kernel
theorem d_C_find_85 : decode c_C_find 85 = .ok (.invokevirtual 34, 3) := by decide +kernel
theorem d_C_find_88 : decode c_C_find 88 = .ok (.ifCond .ne (7), 3) := by decide +kernel
theorem d_C_find_91 : decode c_C_find 91 = .ok (.iload 6, 2) := by decide +kernel
theorem d_C_find_93 : decode c_C_find 93 = .ok (.istore 4, 2) := by decide +kernel
theorem d_C_find_95 : decode c_C_find 95 = .ok (.iinc 5 (1), 3) := by decide +kernel
theorem d_C_find_98 : decode c_C_find 98 = .ok (.goto (-34), 3) := by decide +kernel
theorem d_C_find_101 : decode c_C_find 101 = .ok (.iload 4, 2) := by decide +kernel
theorem d_C_find_103 : decode c_C_find 103 = .ok (.ireturn, 1) := by decide +kernel
theorem d_C_walk_0 : decode c_C_walk 0 = .ok (.iload_n 1, 1) := by decide +kernel
theorem d_C_walk_1 : decode c_C_walk 1 = .ok (.aload_n 0, 1) := by decide +kernel
theorem d_C_walk_2 : decode c_C_walk 2 = .ok (.getfield 12, 3) := by decide +kernel
theorem d_C_walk_5 : decode c_C_walk 5 = .ok (.getfield 38, 3) := by decide +kernel
theorem d_C_walk_8 : decode c_C_walk 8 = .ok (.if_icmp .lt (50), 3) := by decide +kernel
theorem d_C_walk_11 : decode c_C_walk 11 = .ok (.aload_n 0, 1) := by decide +kernel
theorem d_C_walk_12 : decode c_C_walk 12 = .ok (.getfield 12, 3) := by decide +kernel
theorem d_C_walk_15 : decode c_C_walk 15 = .ok (.invokevirtual 42, 3) := by decide +kernel
theorem d_C_walk_18 : decode c_C_walk 18 = .ok (.istore_n 2, 1) := by decide +kernel
theorem d_C_walk_19 : decode c_C_walk 19 = .ok (.aload_n 0, 1) := by decide +kernel
theorem d_C_walk_20 : decode c_C_walk 20 = .ok (.getfield 18, 3) := by decide +kernel
theorem d_C_walk_23 : decode c_C_walk 23 = .ok (.iload_n 2, 1) := by decide +kernel
theorem d_C_walk_24 : decode c_C_walk 24 = .ok (.bipush (64), 2) := by decide +kernel
theorem d_C_walk_26 : decode c_C_walk 26 = .ok (.idiv, 1) := by decide +kernel
theorem d_C_walk_27 : decode c_C_walk 27 = .ok (.dup2, 1) := by decide +kernel
theorem d_C_walk_28 : decode c_C_walk 28 = .ok (.laload, 1) := by decide +kernel
theorem d_C_walk_29 : decode c_C_walk 29 = .ok (.lconst 1, 1) := by decide +kernel
theorem d_C_walk_30 : decode c_C_walk 30 = .ok (.iload_n 2, 1) := by decide +kernel
theorem d_C_walk_31 : decode c_C_walk 31 = .ok (.bipush (64), 2) := by decide +kernel
theorem d_C_walk_33 : decode c_C_walk 33 = .ok (.irem, 1) := by decide +kernel
theorem d_C_walk_34 : decode c_C_walk 34 = .ok (.lshl, 1) := by decide +kernel
theorem d_C_walk_35 : decode c_C_walk 35 = .ok (.lor, 1) := by decide +kernel
theorem d_C_walk_36 : decode c_C_walk 36 = .ok (.lastore, 1) := by decide +kernel
theorem d_C_walk_37 : decode c_C_walk 37 = .ok (.aload_n 0, 1) := by decide +kernel
theorem d_C_walk_38 : decode c_C_walk 38 = .ok (.aload_n 0, 1) := by decide +kernel
theorem d_C_walk_39 : decode c_C_walk 39 = .ok (.getfield 26, 3) := by decide +kernel
theorem d_C_walk_42 : decode c_C_walk 42 = .ok (.ifCond .ne (7), 3) := by decide +kernel
theorem d_C_walk_45 : decode c_C_walk 45 = .ok (.iload_n 2, 1) := by decide +kernel
theorem d_C_walk_46 : decode c_C_walk 46 = .ok (.ifCond .ne (7), 3) := by decide +kernel
theorem d_C_walk_49 : decode c_C_walk 49 = .ok (.iconst 1, 1) := by decide +kernel
theorem d_C_walk_50 : decode c_C_walk 50 = .ok (.goto (4), 3) := by decide +kernel
theorem d_C_walk_53 : decode c_C_walk 53 = .ok (.iconst 0, 1) := by decide +kernel
theorem d_C_walk_54 : decode c_C_walk 54 = .ok (.putfield 26, 3) := by decide +kernel
theorem d_C_walk_57 : decode c_C_walk 57 = .ok (.return_, 1) := by decide +kernel
theorem d_C_walk_58 : decode c_C_walk 58 = .ok (.aload_n 0, 1) := by decide +kernel
theorem d_C_walk_59 : decode c_C_walk 59 = .ok (.getfield 12, 3) := by decide +kernel
theorem d_C_walk_62 : decode c_C_walk 62 = .ok (.iload_n 1, 1) := by decide +kernel
theorem d_C_walk_63 : decode c_C_walk 63 = .ok (.invokevirtual 46, 3) := by decide +kernel
theorem d_C_walk_66 : decode c_C_walk 66 = .ok (.iconst 0, 1) := by decide +kernel
theorem d_C_walk_67 : decode c_C_walk 67 = .ok (.istore_n 2, 1) := by decide +kernel
theorem d_C_walk_68 : decode c_C_walk 68 = .ok (.iload_n 2, 1) := by decide +kernel
theorem d_C_walk_69 : decode c_C_walk 69 = .ok (.aload_n 0, 1) := by decide +kernel
theorem d_C_walk_70 : decode c_C_walk 70 = .ok (.getfield 12, 3) := by decide +kernel
theorem d_C_walk_73 : decode c_C_walk 73 = .ok (.getfield 49, 3) := by decide +kernel
theorem d_C_walk_76 : decode c_C_walk 76 = .ok (.iload_n 1, 1) := by decide +kernel
theorem d_C_walk_77 : decode c_C_walk 77 = .ok (.iaload, 1) := by decide +kernel
theorem d_C_walk_78 : decode c_C_walk 78 = .ok (.if_icmp .gt (35), 3) := by decide +kernel
theorem d_C_walk_81 : decode c_C_walk 81 = .ok (.aload_n 0, 1) := by decide +kernel
theorem d_C_walk_82 : decode c_C_walk 82 = .ok (.getfield 26, 3) := by decide +kernel
theorem d_C_walk_85 : decode c_C_walk 85 = .ok (.ifCond .ne (28), 3) := by decide +kernel
theorem d_C_walk_88 : decode c_C_walk 88 = .ok (.iload_n 2, 1) := by decide +kernel
theorem d_C_walk_89 : decode c_C_walk 89 = .ok (.ifCond .le (11), 3) := by decide +kernel
theorem d_C_walk_92 : decode c_C_walk 92 = .ok (.aload_n 0, 1) := by decide +kernel
theorem d_C_walk_93 : decode c_C_walk 93 = .ok (.getfield 12, 3) := by decide +kernel
theorem d_C_walk_96 : decode c_C_walk 96 = .ok (.iload_n 1, 1) := by decide +kernel
theorem d_C_walk_97 : decode c_C_walk 97 = .ok (.invokevirtual 53, 3) := by decide +kernel
theorem d_C_walk_100 : decode c_C_walk 100 = .ok (.aload_n 0, 1) := by decide +kernel
theorem d_C_walk_101 : decode c_C_walk 101 = .ok (.iload_n 1, 1) := by decide +kernel
theorem d_C_walk_102 : decode c_C_walk 102 = .ok (.iconst 1, 1) := by decide +kernel
theorem d_C_walk_103 : decode c_C_walk 103 = .ok (.iadd, 1) := by decide +kernel
theorem d_C_walk_104 : decode c_C_walk 104 = .ok (.invokevirtual 30, 3) := by decide +kernel
theorem d_C_walk_107 : decode c_C_walk 107 = .ok (.iinc 2 (1), 3) := by decide +kernel
theorem d_C_walk_110 : decode c_C_walk 110 = .ok (.goto (-42), 3) := by decide +kernel
theorem d_C_walk_113 : decode c_C_walk 113 = .ok (.return_, 1) := by decide +kernel
theorem d_C_someChargeHolds_0 : decode c_C_someChargeHolds 0 = .ok (.iconst 0, 1) := by decide +kernel
theorem d_C_someChargeHolds_1 : decode c_C_someChargeHolds 1 = .ok (.istore_n 2, 1) := by decide +kernel
theorem d_C_someChargeHolds_2 : decode c_C_someChargeHolds 2 = .ok (.iload_n 2, 1) := by decide +kernel
theorem d_C_someChargeHolds_3 : decode c_C_someChargeHolds 3 = .ok (.sipush (2048), 3) := by decide +kernel
theorem d_C_someChargeHolds_6 : decode c_C_someChargeHolds 6 = .ok (.if_icmp .ge (38), 3) := by decide +kernel
theorem d_C_someChargeHolds_9 : decode c_C_someChargeHolds 9 = .ok (.iload_n 2, 1) := by decide +kernel
theorem d_C_someChargeHolds_10 : decode c_C_someChargeHolds 10 = .ok (.iload_n 1, 1) := by decide +kernel
theorem d_C_someChargeHolds_11 : decode c_C_someChargeHolds 11 = .ok (.iand, 1) := by decide +kernel
theorem d_C_someChargeHolds_12 : decode c_C_someChargeHolds 12 = .ok (.ifCond .ne (26), 3) := by decide +kernel
theorem d_C_someChargeHolds_15 : decode c_C_someChargeHolds 15 = .ok (.aload_n 0, 1) := by decide +kernel
theorem d_C_someChargeHolds_16 : decode c_C_someChargeHolds 16 = .ok (.getfield 18, 3) := by decide +kernel
theorem d_C_someChargeHolds_19 : decode c_C_someChargeHolds 19 = .ok (.iload_n 2, 1) := by decide +kernel
theorem d_C_someChargeHolds_20 : decode c_C_someChargeHolds 20 = .ok (.bipush (64), 2) := by decide +kernel
theorem d_C_someChargeHolds_22 : decode c_C_someChargeHolds 22 = .ok (.idiv, 1) := by decide +kernel
theorem d_C_someChargeHolds_23 : decode c_C_someChargeHolds 23 = .ok (.laload, 1) := by decide +kernel
theorem d_C_someChargeHolds_24 : decode c_C_someChargeHolds 24 = .ok (.iload_n 2, 1) := by decide +kernel
theorem d_C_someChargeHolds_25 : decode c_C_someChargeHolds 25 = .ok (.bipush (64), 2) := by decide +kernel
theorem d_C_someChargeHolds_27 : decode c_C_someChargeHolds 27 = .ok (.irem, 1) := by decide +kernel
theorem d_C_someChargeHolds_28 : decode c_C_someChargeHolds 28 = .ok (.lushr, 1) := by decide +kernel
theorem d_C_someChargeHolds_29 : decode c_C_someChargeHolds 29 = .ok (.lconst 1, 1) := by decide +kernel
theorem d_C_someChargeHolds_30 : decode c_C_someChargeHolds 30 = .ok (.land, 1) := by decide +kernel
theorem d_C_someChargeHolds_31 : decode c_C_someChargeHolds 31 = .ok (.lconst 0, 1) := by decide +kernel
theorem d_C_someChargeHolds_32 : decode c_C_someChargeHolds 32 = .ok (.lcmp, 1) := by decide +kernel
theorem d_C_someChargeHolds_33 : decode c_C_someChargeHolds 33 = .ok (.ifCond .eq (5), 3) := by decide +kernel
theorem d_C_someChargeHolds_36 : decode c_C_someChargeHolds 36 = .ok (.iconst 1, 1) := by decide +kernel
theorem d_C_someChargeHolds_37 : decode c_C_someChargeHolds 37 = .ok (.ireturn, 1) := by decide +kernel
theorem d_C_someChargeHolds_38 : decode c_C_someChargeHolds 38 = .ok (.iinc 2 (1), 3) := by decide +kernel
theorem d_C_someChargeHolds_41 : decode c_C_someChargeHolds 41 = .ok (.goto (-39), 3) := by decide +kernel
theorem d_C_someChargeHolds_44 : decode c_C_someChargeHolds 44 = .ok (.iconst 0, 1) := by decide +kernel
theorem d_C_someChargeHolds_45 : decode c_C_someChargeHolds 45 = .ok (.ireturn, 1) := by decide +kernel
theorem d_G_init_0 : decode c_G_init 0 = .ok (.aload_n 0, 1) := by decide +kernel
theorem d_G_init_1 : decode c_G_init 1 = .ok (.invokespecial 3, 3) := by decide +kernel
theorem d_G_init_4 : decode c_G_init 4 = .ok (.aload_n 0, 1) := by decide +kernel
theorem d_G_init_5 : decode c_G_init 5 = .ok (.iconst 5, 1) := by decide +kernel
theorem d_G_init_6 : decode c_G_init 6 = .ok (.newarray .int, 2) := by decide +kernel
theorem d_G_init_8 : decode c_G_init 8 = .ok (.putfield 9, 3) := by decide +kernel
theorem d_G_init_11 : decode c_G_init 11 = .ok (.aload_n 0, 1) := by decide +kernel
theorem d_G_init_12 : decode c_G_init 12 = .ok (.iconst 5, 1) := by decide +kernel
theorem d_G_init_13 : decode c_G_init 13 = .ok (.newarray .int, 2) := by decide +kernel
theorem d_G_init_15 : decode c_G_init 15 = .ok (.putfield 15, 3) := by decide +kernel
theorem d_G_init_18 : decode c_G_init 18 = .ok (.aload_n 0, 1) := by decide +kernel
theorem d_G_init_19 : decode c_G_init 19 = .ok (.iconst 5, 1) := by decide +kernel
theorem d_G_init_20 : decode c_G_init 20 = .ok (.newarray .int, 2) := by decide +kernel
theorem d_G_init_22 : decode c_G_init 22 = .ok (.putfield 18, 3) := by decide +kernel
theorem d_G_init_25 : decode c_G_init 25 = .ok (.aload_n 0, 1) := by decide +kernel
theorem d_G_init_26 : decode c_G_init 26 = .ok (.iconst 5, 1) := by decide +kernel
theorem d_G_init_27 : decode c_G_init 27 = .ok (.newarray .int, 2) := by decide +kernel
theorem d_G_init_29 : decode c_G_init 29 = .ok (.putfield 21, 3) := by decide +kernel
theorem d_G_init_32 : decode c_G_init 32 = .ok (.aload_n 0, 1) := by decide +kernel
theorem d_G_init_33 : decode c_G_init 33 = .ok (.bipush (20), 2) := by decide +kernel
theorem d_G_init_35 : decode c_G_init 35 = .ok (.newarray .int, 2) := by decide +kernel
theorem d_G_init_37 : decode c_G_init 37 = .ok (.putfield 24, 3) := by decide +kernel
theorem d_G_init_40 : decode c_G_init 40 = .ok (.aload_n 0, 1) := by decide +kernel
theorem d_G_init_41 : decode c_G_init 41 = .ok (.bipush (20), 2) := by decide +kernel
theorem d_G_init_43 : decode c_G_init 43 = .ok (.newarray .int, 2) := by decide +kernel
theorem d_G_init_45 : decode c_G_init 45 = .ok (.putfield 27, 3) := by decide +kernel
theorem d_G_init_48 : decode c_G_init 48 = .ok (.return_, 1) := by decide +kernel
theorem d_G_append_0 : decode c_G_append 0 = .ok (.aload_n 0, 1) := by decide +kernel
theorem d_G_append_1 : decode c_G_append 1 = .ok (.getfield 30, 3) := by decide +kernel
theorem d_G_append_4 : decode c_G_append 4 = .ok (.istore 4, 2) := by decide +kernel
theorem d_G_append_6 : decode c_G_append 6 = .ok (.aload_n 0, 1) := by decide +kernel
theorem d_G_append_7 : decode c_G_append 7 = .ok (.getfield 9, 3) := by decide +kernel
theorem d_G_append_10 : decode c_G_append 10 = .ok (.iload 4, 2) := by decide +kernel
theorem d_G_append_12 : decode c_G_append 12 = .ok (.iload_n 1, 1) := by decide +kernel
theorem d_G_append_13 : decode c_G_append 13 = .ok (.iastore, 1) := by decide +kernel
theorem d_G_append_14 : decode c_G_append 14 = .ok (.aload_n 0, 1) := by decide +kernel
theorem d_G_append_15 : decode c_G_append 15 = .ok (.getfield 15, 3) := by decide +kernel
theorem d_G_append_18 : decode c_G_append 18 = .ok (.iload 4, 2) := by decide +kernel
theorem d_G_append_20 : decode c_G_append 20 = .ok (.iload_n 2, 1) := by decide +kernel
theorem d_G_append_21 : decode c_G_append 21 = .ok (.iastore, 1) := by decide +kernel
theorem d_G_append_22 : decode c_G_append 22 = .ok (.aload_n 0, 1) := by decide +kernel
theorem d_G_append_23 : decode c_G_append 23 = .ok (.getfield 18, 3) := by decide +kernel
theorem d_G_append_26 : decode c_G_append 26 = .ok (.iload 4, 2) := by decide +kernel
theorem d_G_append_28 : decode c_G_append 28 = .ok (.iload_n 3, 1) := by decide +kernel
theorem d_G_append_29 : decode c_G_append 29 = .ok (.iastore, 1) := by decide +kernel
theorem d_G_append_30 : decode c_G_append 30 = .ok (.aload_n 0, 1) := by decide +kernel
theorem d_G_append_31 : decode c_G_append 31 = .ok (.getfield 21, 3) := by decide +kernel
theorem d_G_append_34 : decode c_G_append 34 = .ok (.iload 4, 2) := by decide +kernel
theorem d_G_append_36 : decode c_G_append 36 = .ok (.bipush (6), 2) := by decide +kernel
theorem d_G_append_38 : decode c_G_append 38 = .ok (.iastore, 1) := by decide +kernel
theorem d_G_append_39 : decode c_G_append 39 = .ok (.aload_n 0, 1) := by decide +kernel
theorem d_G_append_40 : decode c_G_append 40 = .ok (.dup, 1) := by decide +kernel
theorem d_G_append_41 : decode c_G_append 41 = .ok (.getfield 30, 3) := by decide +kernel
theorem d_G_append_44 : decode c_G_append 44 = .ok (.iconst 1, 1) := by decide +kernel
theorem d_G_append_45 : decode c_G_append 45 = .ok (.iadd, 1) := by decide +kernel
theorem d_G_append_46 : decode c_G_append 46 = .ok (.putfield 30, 3) := by decide +kernel
theorem d_G_append_49 : decode c_G_append 49 = .ok (.iload 4, 2) := by decide +kernel
theorem d_G_append_51 : decode c_G_append 51 = .ok (.ireturn, 1) := by decide +kernel
theorem d_G_room_0 : decode c_G_room 0 = .ok (.aload_n 0, 1) := by decide +kernel
theorem d_G_room_1 : decode c_G_room 1 = .ok (.getfield 18, 3) := by decide +kernel
theorem d_G_room_4 : decode c_G_room 4 = .ok (.iload_n 1, 1) := by decide +kernel
theorem d_G_room_5 : decode c_G_room 5 = .ok (.iaload, 1) := by decide +kernel
theorem d_G_room_6 : decode c_G_room 6 = .ok (.aload_n 0, 1) := by decide +kernel
theorem d_G_room_7 : decode c_G_room 7 = .ok (.getfield 21, 3) := by decide +kernel
theorem d_G_room_10 : decode c_G_room 10 = .ok (.iload_n 1, 1) := by decide +kernel
theorem d_G_room_11 : decode c_G_room 11 = .ok (.iaload, 1) := by decide +kernel
theorem d_G_room_12 : decode c_G_room 12 = .ok (.invokestatic 34, 3) := by decide +kernel
theorem d_G_room_15 : decode c_G_room 15 = .ok (.ireturn, 1) := by decide +kernel
theorem d_H_init_0 : decode c_H_init 0 = .ok (.aload_n 0, 1) := by decide +kernel
theorem d_H_init_1 : decode c_H_init 1 = .ok (.invokespecial 3, 3) := by decide +kernel
theorem d_H_init_4 : decode c_H_init 4 = .ok (.aload_n 0, 1) := by decide +kernel
theorem d_H_init_5 : decode c_H_init 5 = .ok (.iconst 4, 1) := by decide +kernel
theorem d_H_init_6 : decode c_H_init 6 = .ok (.newarray .int, 2) := by decide +kernel
theorem d_H_init_8 : decode c_H_init 8 = .ok (.putfield 9, 3) := by decide +kernel
theorem d_H_init_11 : decode c_H_init 11 = .ok (.aload_n 0, 1) := by decide +kernel
theorem d_H_init_12 : decode c_H_init 12 = .ok (.iconst 4, 1) := by decide +kernel
theorem d_H_init_13 : decode c_H_init 13 = .ok (.newarray .int, 2) := by decide +kernel
theorem d_H_init_15 : decode c_H_init 15 = .ok (.putfield 15, 3) := by decide +kernel
theorem d_H_init_18 : decode c_H_init 18 = .ok (.aload_n 0, 1) := by decide +kernel
theorem d_H_init_19 : decode c_H_init 19 = .ok (.bipush (16), 2) := by decide +kernel
theorem d_H_init_21 : decode c_H_init 21 = .ok (.newarray .int, 2) := by decide +kernel
theorem d_H_init_23 : decode c_H_init 23 = .ok (.putfield 18, 3) := by decide +kernel
theorem d_H_init_26 : decode c_H_init 26 = .ok (.aload_n 0, 1) := by decide +kernel
theorem d_H_init_27 : decode c_H_init 27 = .ok (.bipush (16), 2) := by decide +kernel
theorem d_H_init_29 : decode c_H_init 29 = .ok (.newarray .int, 2) := by decide +kernel
theorem d_H_init_31 : decode c_H_init 31 = .ok (.putfield 21, 3) := by decide +kernel
theorem d_H_init_34 : decode c_H_init 34 = .ok (.aload_n 0, 1) := by decide +kernel
theorem d_H_init_35 : decode c_H_init 35 = .ok (.iconst 4, 1) := by decide +kernel
theorem d_H_init_36 : decode c_H_init 36 = .ok (.newarray .int, 2) := by decide +kernel
theorem d_H_init_38 : decode c_H_init 38 = .ok (.putfield 24, 3) := by decide +kernel
theorem d_H_init_41 : decode c_H_init 41 = .ok (.aload_n 0, 1) := by decide +kernel
theorem d_H_init_42 : decode c_H_init 42 = .ok (.iconst 4, 1) := by decide +kernel
theorem d_H_init_43 : decode c_H_init 43 = .ok (.newarray .int, 2) := by decide +kernel
theorem d_H_init_45 : decode c_H_init 45 = .ok (.putfield 27, 3) := by decide +kernel
theorem d_H_init_48 : decode c_H_init 48 = .ok (.aload_n 0, 1) := by decide +kernel
theorem d_H_init_49 : decode c_H_init 49 = .ok (.bipush (20), 2) := by decide +kernel
theorem d_H_init_51 : decode c_H_init 51 = .ok (.newarray .int, 2) := by decide +kernel
theorem d_H_init_53 : decode c_H_init 53 = .ok (.putfield 30, 3) := by decide +kernel
theorem d_H_init_56 : decode c_H_init 56 = .ok (.return_, 1) := by decide +kernel
theorem d_H_append_0 : decode c_H_append 0 = .ok (.aload_n 0, 1) := by decide +kernel
theorem d_H_append_1 : decode c_H_append 1 = .ok (.getfield 33, 3) := by decide +kernel
theorem d_H_append_4 : decode c_H_append 4 = .ok (.istore_n 3, 1) := by decide +kernel
theorem d_H_append_5 : decode c_H_append 5 = .ok (.aload_n 0, 1) := by decide +kernel
theorem d_H_append_6 : decode c_H_append 6 = .ok (.getfield 9, 3) := by decide +kernel
theorem d_H_append_9 : decode c_H_append 9 = .ok (.iload_n 3, 1) := by decide +kernel
theorem d_H_append_10 : decode c_H_append 10 = .ok (.iload_n 1, 1) := by decide +kernel
theorem d_H_append_11 : decode c_H_append 11 = .ok (.iastore, 1) := by decide +kernel
theorem d_H_append_12 : decode c_H_append 12 = .ok (.aload_n 0, 1) := by decide +kernel
theorem d_H_append_13 : decode c_H_append 13 = .ok (.getfield 15, 3) := by decide +kernel
theorem d_H_append_16 : decode c_H_append 16 = .ok (.iload_n 3, 1) := by decide +kernel
theorem d_H_append_17 : decode c_H_append 17 = .ok (.iload_n 2, 1) := by decide +kernel
theorem d_H_append_18 : decode c_H_append 18 = .ok (.iastore, 1) := by decide +kernel
theorem d_H_append_19 : decode c_H_append 19 = .ok (.iconst 0, 1) := by decide +kernel
theorem d_H_append_20 : decode c_H_append 20 = .ok (.istore 4, 2) := by decide +kernel
theorem d_H_append_22 : decode c_H_append 22 = .ok (.iload 4, 2) := by decide +kernel
theorem d_H_append_24 : decode c_H_append 24 = .ok (.iconst 4, 1) := by decide +kernel
theorem d_H_append_25 : decode c_H_append 25 = .ok (.if_icmp .ge (23), 3) := by decide +kernel
theorem d_H_append_28 : decode c_H_append 28 = .ok (.aload_n 0, 1) := by decide +kernel
theorem d_H_append_29 : decode c_H_append 29 = .ok (.getfield 21, 3) := by decide +kernel
theorem d_H_append_32 : decode c_H_append 32 = .ok (.iload_n 3, 1) := by decide +kernel
theorem d_H_append_33 : decode c_H_append 33 = .ok (.iconst 4, 1) := by decide +kernel
theorem d_H_append_34 : decode c_H_append 34 = .ok (.imul, 1) := by decide +kernel
theorem d_H_append_35 : decode c_H_append 35 = .ok (.iload 4, 2) := by decide +kernel
theorem d_H_append_37 : decode c_H_append 37 = .ok (.iadd, 1) := by decide +kernel
theorem d_H_append_38 : decode c_H_append 38 = .ok (.sipush (10000), 3) := by decide +kernel
theorem d_H_append_41 : decode c_H_append 41 = .ok (.iastore, 1) := by decide +kernel
theorem d_H_append_42 : decode c_H_append 42 = .ok (.iinc 4 (1), 3) := by decide +kernel
theorem d_H_append_45 : decode c_H_append 45 = .ok (.goto (-23), 3) := by decide +kernel
theorem d_H_append_48 : decode c_H_append 48 = .ok (.aload_n 0, 1) := by decide +kernel
theorem d_H_append_49 : decode c_H_append 49 = .ok (.getfield 24, 3) := by decide +kernel
theorem d_H_append_52 : decode c_H_append 52 = .ok (.iload_n 3, 1) := by decide +kernel
theorem d_H_append_53 : decode c_H_append 53 = .ok (.bipush (30), 2) := by decide +kernel
theorem d_H_append_55 : decode c_H_append 55 = .ok (.iastore, 1) := by decide +kernel
theorem d_H_append_56 : decode c_H_append 56 = .ok (.aload_n 0, 1) := by decide +kernel
theorem d_H_append_57 : decode c_H_append 57 = .ok (.getfield 27, 3) := by decide +kernel
theorem d_H_append_60 : decode c_H_append 60 = .ok (.iload_n 3, 1) := by decide +kernel
theorem d_H_append_61 : decode c_H_append 61 = .ok (.iconst (-1), 1) := by decide +kernel
theorem d_H_append_62 : decode c_H_append 62 = .ok (.iastore, 1) := by decide +kernel
theorem d_H_append_63 : decode c_H_append 63 = .ok (.aload_n 0, 1) := by decide +kernel
theorem d_H_append_64 : decode c_H_append 64 = .ok (.dup, 1) := by decide +kernel
theorem d_H_append_65 : decode c_H_append 65 = .ok (.getfield 33, 3) := by decide +kernel
theorem d_H_append_68 : decode c_H_append 68 = .ok (.iconst 1, 1) := by decide +kernel
theorem d_H_append_69 : decode c_H_append 69 = .ok (.iadd, 1) := by decide +kernel
theorem d_H_append_70 : decode c_H_append 70 = .ok (.putfield 33, 3) := by decide +kernel
theorem d_H_append_73 : decode c_H_append 73 = .ok (.iload_n 3, 1) := by decide +kernel
theorem d_H_append_74 : decode c_H_append 74 = .ok (.ireturn, 1) := by decide +kernel
theorem d_H_hasPlan_0 : decode c_H_hasPlan 0 = .ok (.aload_n 0, 1) := by decide +kernel
theorem d_H_hasPlan_1 : decode c_H_hasPlan 1 = .ok (.getfield 27, 3) := by decide +kernel
theorem d_H_hasPlan_4 : decode c_H_hasPlan 4 = .ok (.iload_n 1, 1) := by decide +kernel
theorem d_H_hasPlan_5 : decode c_H_hasPlan 5 = .ok (.iaload, 1) := by decide +kernel
theorem d_H_hasPlan_6 : decode c_H_hasPlan 6 = .ok (.iconst (-1), 1) := by decide +kernel
theorem d_H_hasPlan_7 : decode c_H_hasPlan 7 = .ok (.if_icmp .eq (7), 3) := by decide +kernel
theorem d_H_hasPlan_10 : decode c_H_hasPlan 10 = .ok (.iconst 1, 1) := by decide +kernel
theorem d_H_hasPlan_11 : decode c_H_hasPlan 11 = .ok (.goto (4), 3) := by decide +kernel
theorem d_H_hasPlan_14 : decode c_H_hasPlan 14 = .ok (.iconst 0, 1) := by decide +kernel
theorem d_H_hasPlan_15 : decode c_H_hasPlan 15 = .ok (.ireturn, 1) := by decide +kernel
theorem d_H_keepPlan_0 : decode c_H_keepPlan 0 = .ok (.aload_n 0, 1) := by decide +kernel
theorem d_H_keepPlan_1 : decode c_H_keepPlan 1 = .ok (.getfield 27, 3) := by decide +kernel
theorem d_H_keepPlan_4 : decode c_H_keepPlan 4 = .ok (.iload_n 1, 1) := by decide +kernel
theorem d_H_keepPlan_5 : decode c_H_keepPlan 5 = .ok (.iload_n 3, 1) := by decide +kernel
theorem d_H_keepPlan_6 : decode c_H_keepPlan 6 = .ok (.iastore, 1) := by decide +kernel
theorem d_H_keepPlan_7 : decode c_H_keepPlan 7 = .ok (.iconst 0, 1) := by decide +kernel
theorem d_H_keepPlan_8 : decode c_H_keepPlan 8 = .ok (.istore 4, 2) := by decide +kernel
theorem d_H_keepPlan_10 : decode c_H_keepPlan 10 = .ok (.iload 4, 2) := by decide +kernel
theorem d_H_keepPlan_12 : decode c_H_keepPlan 12 = .ok (.iconst 5, 1) := by decide +kernel
theorem d_H_keepPlan_13 : decode c_H_keepPlan 13 = .ok (.if_icmp .ge (24), 3) := by decide +kernel
theorem d_H_keepPlan_16 : decode c_H_keepPlan 16 = .ok (.aload_n 0, 1) := by decide +kernel
theorem d_H_keepPlan_17 : decode c_H_keepPlan 17 = .ok (.getfield 30, 3) := by decide +kernel
theorem d_H_keepPlan_20 : decode c_H_keepPlan 20 = .ok (.iload_n 1, 1) := by decide +kernel
theorem d_H_keepPlan_21 : decode c_H_keepPlan 21 = .ok (.iconst 5, 1) := by decide +kernel
theorem d_H_keepPlan_22 : decode c_H_keepPlan 22 = .ok (.imul, 1) := by decide +kernel
theorem d_H_keepPlan_23 : decode c_H_keepPlan 23 = .ok (.iload 4, 2) := by decide +kernel
theorem d_H_keepPlan_25 : decode c_H_keepPlan 25 = .ok (.iadd, 1) := by decide +kernel
theorem d_H_keepPlan_26 : decode c_H_keepPlan 26 = .ok (.aload_n 2, 1) := by decide +kernel
theorem d_H_keepPlan_27 : decode c_H_keepPlan 27 = .ok (.iload 4, 2) := by decide +kernel
theorem d_H_keepPlan_29 : decode c_H_keepPlan 29 = .ok (.iaload, 1) := by decide +kernel
theorem d_H_keepPlan_30 : decode c_H_keepPlan 30 = .ok (.iastore, 1) := by decide +kernel
theorem d_H_keepPlan_31 : decode c_H_keepPlan 31 = .ok (.iinc 4 (1), 3) := by decide +kernel
theorem d_H_keepPlan_34 : decode c_H_keepPlan 34 = .ok (.goto (-24), 3) := by decide +kernel
theorem d_H_keepPlan_37 : decode c_H_keepPlan 37 = .ok (.return_, 1) := by decide +kernel
theorem d_P_init_0 : decode c_P_init 0 = .ok (.aload_n 0, 1) := by decide +kernel
theorem d_P_init_1 : decode c_P_init 1 = .ok (.invokespecial 3, 3) := by decide +kernel
theorem d_P_init_4 : decode c_P_init 4 = .ok (.aload_n 0, 1) := by decide +kernel
theorem d_P_init_5 : decode c_P_init 5 = .ok (.new 9, 3) := by decide +kernel
theorem d_P_init_8 : decode c_P_init 8 = .ok (.dup, 1) := by decide +kernel
theorem d_P_init_9 : decode c_P_init 9 = .ok (.invokespecial 11, 3) := by decide +kernel
theorem d_P_init_12 : decode c_P_init 12 = .ok (.putfield 12, 3) := by decide +kernel
theorem d_P_init_15 : decode c_P_init 15 = .ok (.aload_n 0, 1) := by decide +kernel
theorem d_P_init_16 : decode c_P_init 16 = .ok (.iconst 5, 1) := by decide +kernel
theorem d_P_init_17 : decode c_P_init 17 = .ok (.newarray .int, 2) := by decide +kernel
theorem d_P_init_19 : decode c_P_init 19 = .ok (.putfield 18, 3) := by decide +kernel
theorem d_P_init_22 : decode c_P_init 22 = .ok (.aload_n 0, 1) := by decide +kernel
theorem d_P_init_23 : decode c_P_init 23 = .ok (.iconst 5, 1) := by decide +kernel
theorem d_P_init_24 : decode c_P_init 24 = .ok (.newarray .int, 2) := by decide +kernel
theorem d_P_init_26 : decode c_P_init 26 = .ok (.putfield 22, 3) := by decide +kernel
theorem d_P_init_29 : decode c_P_init 29 = .ok (.return_, 1) := by decide +kernel
theorem d_P_search_0 : decode c_P_search 0 = .ok (.aload_n 0, 1) := by decide +kernel
theorem d_P_search_1 : decode c_P_search 1 = .ok (.getfield 12, 3) := by decide +kernel
theorem d_P_search_4 : decode c_P_search 4 = .ok (.aload_n 1, 1) := by decide +kernel
theorem d_P_search_5 : decode c_P_search 5 = .ok (.aload_n 2, 1) := by decide +kernel
theorem d_P_search_6 : decode c_P_search 6 = .ok (.iload_n 3, 1) := by decide +kernel
theorem d_P_search_7 : decode c_P_search 7 = .ok (.invokevirtual 25, 3) := by decide +kernel
theorem d_P_search_10 : decode c_P_search 10 = .ok (.aload_n 0, 1) := by decide +kernel
theorem d_P_search_11 : decode c_P_search 11 = .ok (.iconst (-1), 1) := by decide +kernel
theorem d_P_search_12 : decode c_P_search 12 = .ok (.putfield 29, 3) := by decide +kernel
theorem d_P_search_15 : decode c_P_search 15 = .ok (.aload_n 0, 1) := by decide +kernel
theorem d_P_search_16 : decode c_P_search 16 = .ok (.iload 4, 2) := by decide +kernel
theorem d_P_search_18 : decode c_P_search 18 = .ok (.putfield 33, 3) := by decide +kernel
theorem d_P_search_21 : decode c_P_search 21 = .ok (.aload_n 0, 1) := by decide +kernel
theorem d_P_search_22 : decode c_P_search 22 = .ok (.iconst 0, 1) := by decide +kernel
theorem d_P_search_23 : decode c_P_search 23 = .ok (.putfield 36, 3) := by decide +kernel
theorem d_P_search_26 : decode c_P_search 26 = .ok (.aload_n 0, 1) := by decide +kernel
theorem d_P_search_27 : decode c_P_search 27 = .ok (.iconst 0, 1) := by decide +kernel
theorem d_P_search_28 : decode c_P_search 28 = .ok (.putfield 39, 3) := by decide +kernel
theorem d_P_search_31 : decode c_P_search 31 = .ok (.aload_n 0, 1) := by decide +kernel
theorem d_P_search_32 : decode c_P_search 32 = .ok (.iconst 1, 1) := by decide +kernel
theorem d_P_search_33 : decode c_P_search 33 = .ok (.putfield 43, 3) := by decide +kernel
theorem d_P_search_36 : decode c_P_search 36 = .ok (.aload_n 0, 1) := by decide +kernel
theorem d_P_search_37 : decode c_P_search 37 = .ok (.iconst 0, 1) := by decide +kernel
theorem d_P_search_38 : decode c_P_search 38 = .ok (.invokevirtual 46, 3) := by decide +kernel
theorem d_P_search_41 : decode c_P_search 41 = .ok (.return_, 1) := by decide +kernel
theorem d_P_tryNumbers_0 : decode c_P_tryNumbers 0 = .ok (.iload_n 1, 1) := by decide +kernel
theorem d_P_tryNumbers_1 : decode c_P_tryNumbers 1 = .ok (.aload_n 0, 1) := by decide +kernel
theorem d_P_tryNumbers_2 : decode c_P_tryNumbers 2 = .ok (.getfield 12, 3) := by decide +kernel
theorem d_P_tryNumbers_5 : decode c_P_tryNumbers 5 = .ok (.getfield 50, 3) := by decide +kernel
theorem d_P_tryNumbers_8 : decode c_P_tryNumbers 8 = .ok (.if_icmp .lt (8), 3) := by decide +kernel
theorem d_P_tryNumbers_11 : decode c_P_tryNumbers 11 = .ok (.aload_n 0, 1) := by decide +kernel
theorem d_P_tryNumbers_12 : decode c_P_tryNumbers 12 = .ok (.invokevirtual 53, 3) := by decide +kernel
theorem d_P_tryNumbers_15 : decode c_P_tryNumbers 15 = .ok (.return_, 1) := by decide +kernel
theorem d_P_tryNumbers_16 : decode c_P_tryNumbers 16 = .ok (.aload_n 0, 1) := by decide +kernel
theorem d_P_tryNumbers_17 : decode c_P_tryNumbers 17 = .ok (.getfield 12, 3) := by decide +kernel
theorem d_P_tryNumbers_20 : decode c_P_tryNumbers 20 = .ok (.iload_n 1, 1) := by decide +kernel
theorem d_P_tryNumbers_21 : decode c_P_tryNumbers 21 = .ok (.invokevirtual 56, 3) := by decide +kernel
theorem d_P_tryNumbers_24 : decode c_P_tryNumbers 24 = .ok (.iconst 0, 1) := by decide +kernel
theorem d_P_tryNumbers_25 : decode c_P_tryNumbers 25 = .ok (.istore_n 2, 1) := by decide +kernel
theorem d_P_tryNumbers_26 : decode c_P_tryNumbers 26 = .ok (.iload_n 2, 1) := by decide +kernel
theorem d_P_tryNumbers_27 : decode c_P_tryNumbers 27 = .ok (.aload_n 0, 1) := by decide +kernel
theorem d_P_tryNumbers_28 : decode c_P_tryNumbers 28 = .ok (.getfield 12, 3) := by decide +kernel
end
section
theorem d_P_tryNumbers_31 : decode c_P_tryNumbers 31 = .ok (.getfield 59, 3) := by decide +kernel
theorem d_P_tryNumbers_34 : decode c_P_tryNumbers 34 = .ok (.iload_n 1, 1) := by decide +kernel
theorem d_P_tryNumbers_35 : decode c_P_tryNumbers 35 = .ok (.iaload, 1) := by decide +kernel
theorem d_P_tryNumbers_36 : decode c_P_tryNumbers 36 = .ok (.if_icmp .gt (72), 3) := by decide +kernel
theorem d_P_tryNumbers_39 : decode c_P_tryNumbers 39 = .ok (.aload_n 0, 1) := by decide +kernel
theorem d_P_tryNumbers_40 : decode c_P_tryNumbers 40 = .ok (.getfield 36, 3) := by decide +kernel
theorem d_P_tryNumbers_43 : decode c_P_tryNumbers 43 = .ok (.aload_n 0, 1) := by decide +kernel
theorem d_P_tryNumbers_44 : decode c_P_tryNumbers 44 = .ok (.getfield 33, 3) := by decide +kernel
theorem d_P_tryNumbers_47 : decode c_P_tryNumbers 47 = .ok (.if_icmp .lt (9), 3) := by decide +kernel
theorem d_P_tryNumbers_50 : decode c_P_tryNumbers 50 = .ok (.aload_n 0, 1) := by decide +kernel
theorem d_P_tryNumbers_51 : decode c_P_tryNumbers 51 = .ok (.iconst 1, 1) := by decide +kernel
theorem d_P_tryNumbers_52 : decode c_P_tryNumbers 52 = .ok (.putfield 39, 3) := by decide +kernel
theorem d_P_tryNumbers_55 : decode c_P_tryNumbers 55 = .ok (.return_, 1) := by decide +kernel
theorem d_P_tryNumbers_56 : decode c_P_tryNumbers 56 = .ok (.aload_n 0, 1) := by decide +kernel
theorem d_P_tryNumbers_57 : decode c_P_tryNumbers 57 = .ok (.dup, 1) := by decide +kernel
theorem d_P_tryNumbers_58 : decode c_P_tryNumbers 58 = .ok (.getfield 36, 3) := by decide +kernel
theorem d_P_tryNumbers_61 : decode c_P_tryNumbers 61 = .ok (.iconst 1, 1) := by decide +kernel
theorem d_P_tryNumbers_62 : decode c_P_tryNumbers 62 = .ok (.iadd, 1) := by decide +kernel
theorem d_P_tryNumbers_63 : decode c_P_tryNumbers 63 = .ok (.putfield 36, 3) := by decide +kernel
theorem d_P_tryNumbers_66 : decode c_P_tryNumbers 66 = .ok (.iload_n 2, 1) := by decide +kernel
theorem d_P_tryNumbers_67 : decode c_P_tryNumbers 67 = .ok (.ifCond .le (11), 3) := by decide +kernel
theorem d_P_tryNumbers_70 : decode c_P_tryNumbers 70 = .ok (.aload_n 0, 1) := by decide +kernel
theorem d_P_tryNumbers_71 : decode c_P_tryNumbers 71 = .ok (.getfield 12, 3) := by decide +kernel
theorem d_P_tryNumbers_74 : decode c_P_tryNumbers 74 = .ok (.iload_n 1, 1) := by decide +kernel
theorem d_P_tryNumbers_75 : decode c_P_tryNumbers 75 = .ok (.invokevirtual 62, 3) := by decide +kernel
theorem d_P_tryNumbers_78 : decode c_P_tryNumbers 78 = .ok (.aload_n 0, 1) := by decide +kernel
theorem d_P_tryNumbers_79 : decode c_P_tryNumbers 79 = .ok (.getfield 18, 3) := by decide +kernel
theorem d_P_tryNumbers_82 : decode c_P_tryNumbers 82 = .ok (.iload_n 1, 1) := by decide +kernel
theorem d_P_tryNumbers_83 : decode c_P_tryNumbers 83 = .ok (.iload_n 2, 1) := by decide +kernel
theorem d_P_tryNumbers_84 : decode c_P_tryNumbers 84 = .ok (.iastore, 1) := by decide +kernel
theorem d_P_tryNumbers_85 : decode c_P_tryNumbers 85 = .ok (.aload_n 0, 1) := by decide +kernel
theorem d_P_tryNumbers_86 : decode c_P_tryNumbers 86 = .ok (.iload_n 1, 1) := by decide +kernel
theorem d_P_tryNumbers_87 : decode c_P_tryNumbers 87 = .ok (.iconst 1, 1) := by decide +kernel
theorem d_P_tryNumbers_88 : decode c_P_tryNumbers 88 = .ok (.iadd, 1) := by decide +kernel
theorem d_P_tryNumbers_89 : decode c_P_tryNumbers 89 = .ok (.invokevirtual 65, 3) := by decide +kernel
theorem d_P_tryNumbers_92 : decode c_P_tryNumbers 92 = .ok (.ifCond .ne (10), 3) := by decide +kernel
theorem d_P_tryNumbers_95 : decode c_P_tryNumbers 95 = .ok (.aload_n 0, 1) := by decide +kernel
theorem d_P_tryNumbers_96 : decode c_P_tryNumbers 96 = .ok (.iload_n 1, 1) := by decide +kernel
theorem d_P_tryNumbers_97 : decode c_P_tryNumbers 97 = .ok (.iconst 1, 1) := by decide +kernel
theorem d_P_tryNumbers_98 : decode c_P_tryNumbers 98 = .ok (.iadd, 1) := by decide +kernel
theorem d_P_tryNumbers_99 : decode c_P_tryNumbers 99 = .ok (.invokevirtual 46, 3) := by decide +kernel
theorem d_P_tryNumbers_102 : decode c_P_tryNumbers 102 = .ok (.iinc 2 (1), 3) := by decide +kernel
theorem d_P_tryNumbers_105 : decode c_P_tryNumbers 105 = .ok (.goto (-79), 3) := by decide +kernel
theorem d_P_tryNumbers_108 : decode c_P_tryNumbers 108 = .ok (.return_, 1) := by decide +kernel
theorem d_P_givenUp_0 : decode c_P_givenUp 0 = .ok (.aload_n 0, 1) := by decide +kernel
theorem d_P_givenUp_1 : decode c_P_givenUp 1 = .ok (.getfield 12, 3) := by decide +kernel
theorem d_P_givenUp_4 : decode c_P_givenUp 4 = .ok (.iload_n 1, 1) := by decide +kernel
theorem d_P_givenUp_5 : decode c_P_givenUp 5 = .ok (.invokevirtual 69, 3) := by decide +kernel
theorem d_P_givenUp_8 : decode c_P_givenUp 8 = .ok (.ifCond .ne (26), 3) := by decide +kernel
theorem d_P_givenUp_11 : decode c_P_givenUp 11 = .ok (.aload_n 0, 1) := by decide +kernel
theorem d_P_givenUp_12 : decode c_P_givenUp 12 = .ok (.getfield 29, 3) := by decide +kernel
theorem d_P_givenUp_15 : decode c_P_givenUp 15 = .ok (.iconst (-1), 1) := by decide +kernel
theorem d_P_givenUp_16 : decode c_P_givenUp 16 = .ok (.if_icmp .eq (22), 3) := by decide +kernel
theorem d_P_givenUp_19 : decode c_P_givenUp 19 = .ok (.aload_n 0, 1) := by decide +kernel
theorem d_P_givenUp_20 : decode c_P_givenUp 20 = .ok (.getfield 12, 3) := by decide +kernel
theorem d_P_givenUp_23 : decode c_P_givenUp 23 = .ok (.iload_n 1, 1) := by decide +kernel
theorem d_P_givenUp_24 : decode c_P_givenUp 24 = .ok (.invokevirtual 72, 3) := by decide +kernel
theorem d_P_givenUp_27 : decode c_P_givenUp 27 = .ok (.aload_n 0, 1) := by decide +kernel
theorem d_P_givenUp_28 : decode c_P_givenUp 28 = .ok (.getfield 29, 3) := by decide +kernel
theorem d_P_givenUp_31 : decode c_P_givenUp 31 = .ok (.if_icmp .lt (7), 3) := by decide +kernel
theorem d_P_givenUp_34 : decode c_P_givenUp 34 = .ok (.iconst 1, 1) := by decide +kernel
theorem d_P_givenUp_35 : decode c_P_givenUp 35 = .ok (.goto (4), 3) := by decide +kernel
theorem d_P_givenUp_38 : decode c_P_givenUp 38 = .ok (.iconst 0, 1) := by decide +kernel
theorem d_P_givenUp_39 : decode c_P_givenUp 39 = .ok (.ireturn, 1) := by decide +kernel
theorem d_P_keepIfAllHold_0 : decode c_P_keepIfAllHold 0 = .ok (.aload_n 0, 1) := by decide +kernel
theorem d_P_keepIfAllHold_1 : decode c_P_keepIfAllHold 1 = .ok (.getfield 12, 3) := by decide +kernel
theorem d_P_keepIfAllHold_4 : decode c_P_keepIfAllHold 4 = .ok (.invokevirtual 76, 3) := by decide +kernel
theorem d_P_keepIfAllHold_7 : decode c_P_keepIfAllHold 7 = .ok (.ifCond .eq (4), 3) := by decide +kernel
theorem d_P_keepIfAllHold_10 : decode c_P_keepIfAllHold 10 = .ok (.return_, 1) := by decide +kernel
theorem d_P_keepIfAllHold_11 : decode c_P_keepIfAllHold 11 = .ok (.aload_n 0, 1) := by decide +kernel
theorem d_P_keepIfAllHold_12 : decode c_P_keepIfAllHold 12 = .ok (.aload_n 0, 1) := by decide +kernel
theorem d_P_keepIfAllHold_13 : decode c_P_keepIfAllHold 13 = .ok (.getfield 12, 3) := by decide +kernel
theorem d_P_keepIfAllHold_16 : decode c_P_keepIfAllHold 16 = .ok (.aload_n 0, 1) := by decide +kernel
theorem d_P_keepIfAllHold_17 : decode c_P_keepIfAllHold 17 = .ok (.getfield 12, 3) := by decide +kernel
theorem d_P_keepIfAllHold_20 : decode c_P_keepIfAllHold 20 = .ok (.getfield 50, 3) := by decide +kernel
theorem d_P_keepIfAllHold_23 : decode c_P_keepIfAllHold 23 = .ok (.invokevirtual 72, 3) := by decide +kernel
theorem d_P_keepIfAllHold_26 : decode c_P_keepIfAllHold 26 = .ok (.putfield 29, 3) := by decide +kernel
theorem d_P_keepIfAllHold_29 : decode c_P_keepIfAllHold 29 = .ok (.iconst 0, 1) := by decide +kernel
theorem d_P_keepIfAllHold_30 : decode c_P_keepIfAllHold 30 = .ok (.istore_n 1, 1) := by decide +kernel
theorem d_P_keepIfAllHold_31 : decode c_P_keepIfAllHold 31 = .ok (.iload_n 1, 1) := by decide +kernel
theorem d_P_keepIfAllHold_32 : decode c_P_keepIfAllHold 32 = .ok (.iconst 5, 1) := by decide +kernel
theorem d_P_keepIfAllHold_33 : decode c_P_keepIfAllHold 33 = .ok (.if_icmp .ge (21), 3) := by decide +kernel
theorem d_P_keepIfAllHold_36 : decode c_P_keepIfAllHold 36 = .ok (.aload_n 0, 1) := by decide +kernel
theorem d_P_keepIfAllHold_37 : decode c_P_keepIfAllHold 37 = .ok (.getfield 22, 3) := by decide +kernel
theorem d_P_keepIfAllHold_40 : decode c_P_keepIfAllHold 40 = .ok (.iload_n 1, 1) := by decide +kernel
theorem d_P_keepIfAllHold_41 : decode c_P_keepIfAllHold 41 = .ok (.aload_n 0, 1) := by decide +kernel
theorem d_P_keepIfAllHold_42 : decode c_P_keepIfAllHold 42 = .ok (.getfield 18, 3) := by decide +kernel
theorem d_P_keepIfAllHold_45 : decode c_P_keepIfAllHold 45 = .ok (.iload_n 1, 1) := by decide +kernel
theorem d_P_keepIfAllHold_46 : decode c_P_keepIfAllHold 46 = .ok (.iaload, 1) := by decide +kernel
theorem d_P_keepIfAllHold_47 : decode c_P_keepIfAllHold 47 = .ok (.iastore, 1) := by decide +kernel
theorem d_P_keepIfAllHold_48 : decode c_P_keepIfAllHold 48 = .ok (.iinc 1 (1), 3) := by decide +kernel
theorem d_P_keepIfAllHold_51 : decode c_P_keepIfAllHold 51 = .ok (.goto (-20), 3) := by decide +kernel
theorem d_P_keepIfAllHold_54 : decode c_P_keepIfAllHold 54 = .ok (.return_, 1) := by decide +kernel
theorem d_S_init_0 : decode c_S_init 0 = .ok (.aload_n 0, 1) := by decide +kernel
theorem d_S_init_1 : decode c_S_init 1 = .ok (.invokespecial 3, 3) := by decide +kernel
theorem d_S_init_4 : decode c_S_init 4 = .ok (.aload_n 0, 1) := by decide +kernel
theorem d_S_init_5 : decode c_S_init 5 = .ok (.iconst 5, 1) := by decide +kernel
theorem d_S_init_6 : decode c_S_init 6 = .ok (.newarray .int, 2) := by decide +kernel
theorem d_S_init_8 : decode c_S_init 8 = .ok (.putfield 9, 3) := by decide +kernel
theorem d_S_init_11 : decode c_S_init 11 = .ok (.aload_n 0, 1) := by decide +kernel
theorem d_S_init_12 : decode c_S_init 12 = .ok (.bipush (60), 2) := by decide +kernel
theorem d_S_init_14 : decode c_S_init 14 = .ok (.newarray .int, 2) := by decide +kernel
theorem d_S_init_16 : decode c_S_init 16 = .ok (.putfield 15, 3) := by decide +kernel
theorem d_S_init_19 : decode c_S_init 19 = .ok (.aload_n 0, 1) := by decide +kernel
theorem d_S_init_20 : decode c_S_init 20 = .ok (.bipush (72), 2) := by decide +kernel
theorem d_S_init_22 : decode c_S_init 22 = .ok (.newarray .int, 2) := by decide +kernel
theorem d_S_init_24 : decode c_S_init 24 = .ok (.putfield 18, 3) := by decide +kernel
theorem d_S_init_27 : decode c_S_init 27 = .ok (.return_, 1) := by decide +kernel
theorem d_S_load_0 : decode c_S_load 0 = .ok (.aload_n 0, 1) := by decide +kernel
theorem d_S_load_1 : decode c_S_load 1 = .ok (.aload_n 1, 1) := by decide +kernel
theorem d_S_load_2 : decode c_S_load 2 = .ok (.getfield 21, 3) := by decide +kernel
theorem d_S_load_5 : decode c_S_load 5 = .ok (.putfield 27, 3) := by decide +kernel
theorem d_S_load_8 : decode c_S_load 8 = .ok (.aload_n 0, 1) := by decide +kernel
theorem d_S_load_9 : decode c_S_load 9 = .ok (.getfield 18, 3) := by decide +kernel
theorem d_S_load_12 : decode c_S_load 12 = .ok (.iconst 0, 1) := by decide +kernel
theorem d_S_load_13 : decode c_S_load 13 = .ok (.aload_n 2, 1) := by decide +kernel
theorem d_S_load_14 : decode c_S_load 14 = .ok (.getfield 30, 3) := by decide +kernel
theorem d_S_load_17 : decode c_S_load 17 = .ok (.iload_n 3, 1) := by decide +kernel
theorem d_S_load_18 : decode c_S_load 18 = .ok (.iaload, 1) := by decide +kernel
theorem d_S_load_19 : decode c_S_load 19 = .ok (.iastore, 1) := by decide +kernel
theorem d_S_load_20 : decode c_S_load 20 = .ok (.aload_n 0, 1) := by decide +kernel
theorem d_S_load_21 : decode c_S_load 21 = .ok (.getfield 18, 3) := by decide +kernel
theorem d_S_load_24 : decode c_S_load 24 = .ok (.iconst 1, 1) := by decide +kernel
theorem d_S_load_25 : decode c_S_load 25 = .ok (.aload_n 2, 1) := by decide +kernel
theorem d_S_load_26 : decode c_S_load 26 = .ok (.getfield 35, 3) := by decide +kernel
theorem d_S_load_29 : decode c_S_load 29 = .ok (.iload_n 3, 1) := by decide +kernel
theorem d_S_load_30 : decode c_S_load 30 = .ok (.iaload, 1) := by decide +kernel
theorem d_S_load_31 : decode c_S_load 31 = .ok (.ineg, 1) := by decide +kernel
theorem d_S_load_32 : decode c_S_load 32 = .ok (.iastore, 1) := by decide +kernel
theorem d_S_load_33 : decode c_S_load 33 = .ok (.aload_n 0, 1) := by decide +kernel
theorem d_S_load_34 : decode c_S_load 34 = .ok (.getfield 18, 3) := by decide +kernel
theorem d_S_load_37 : decode c_S_load 37 = .ok (.bipush (10), 2) := by decide +kernel
theorem d_S_load_39 : decode c_S_load 39 = .ok (.aload_n 2, 1) := by decide +kernel
theorem d_S_load_40 : decode c_S_load 40 = .ok (.getfield 38, 3) := by decide +kernel
theorem d_S_load_43 : decode c_S_load 43 = .ok (.iload_n 3, 1) := by decide +kernel
theorem d_S_load_44 : decode c_S_load 44 = .ok (.iaload, 1) := by decide +kernel
theorem d_S_load_45 : decode c_S_load 45 = .ok (.ineg, 1) := by decide +kernel
theorem d_S_load_46 : decode c_S_load 46 = .ok (.iastore, 1) := by decide +kernel
theorem d_S_load_47 : decode c_S_load 47 = .ok (.iconst 0, 1) := by decide +kernel
theorem d_S_load_48 : decode c_S_load 48 = .ok (.istore 4, 2) := by decide +kernel
theorem d_S_load_50 : decode c_S_load 50 = .ok (.iload 4, 2) := by decide +kernel
theorem d_S_load_52 : decode c_S_load 52 = .ok (.aload_n 0, 1) := by decide +kernel
theorem d_S_load_53 : decode c_S_load 53 = .ok (.getfield 27, 3) := by decide +kernel
theorem d_S_load_56 : decode c_S_load 56 = .ok (.if_icmp .ge (104), 3) := by decide +kernel
theorem d_S_load_59 : decode c_S_load 59 = .ok (.aload_n 0, 1) := by decide +kernel
theorem d_S_load_60 : decode c_S_load 60 = .ok (.getfield 9, 3) := by decide +kernel
theorem d_S_load_63 : decode c_S_load 63 = .ok (.iload 4, 2) := by decide +kernel
theorem d_S_load_65 : decode c_S_load 65 = .ok (.aload_n 1, 1) := by decide +kernel
theorem d_S_load_66 : decode c_S_load 66 = .ok (.iload 4, 2) := by decide +kernel
theorem d_S_load_68 : decode c_S_load 68 = .ok (.invokevirtual 41, 3) := by decide +kernel
theorem d_S_load_71 : decode c_S_load 71 = .ok (.iastore, 1) := by decide +kernel
theorem d_S_load_72 : decode c_S_load 72 = .ok (.aload_n 0, 1) := by decide +kernel
theorem d_S_load_73 : decode c_S_load 73 = .ok (.getfield 15, 3) := by decide +kernel
theorem d_S_load_76 : decode c_S_load 76 = .ok (.iload 4, 2) := by decide +kernel
theorem d_S_load_78 : decode c_S_load 78 = .ok (.bipush (12), 2) := by decide +kernel
theorem d_S_load_80 : decode c_S_load 80 = .ok (.imul, 1) := by decide +kernel
theorem d_S_load_81 : decode c_S_load 81 = .ok (.iconst 0, 1) := by decide +kernel
theorem d_S_load_82 : decode c_S_load 82 = .ok (.iadd, 1) := by decide +kernel
theorem d_S_load_83 : decode c_S_load 83 = .ok (.aload_n 1, 1) := by decide +kernel
theorem d_S_load_84 : decode c_S_load 84 = .ok (.getfield 44, 3) := by decide +kernel
theorem d_S_load_87 : decode c_S_load 87 = .ok (.iload 4, 2) := by decide +kernel
theorem d_S_load_89 : decode c_S_load 89 = .ok (.iaload, 1) := by decide +kernel
theorem d_S_load_90 : decode c_S_load 90 = .ok (.ineg, 1) := by decide +kernel
theorem d_S_load_91 : decode c_S_load 91 = .ok (.iastore, 1) := by decide +kernel
theorem d_S_load_92 : decode c_S_load 92 = .ok (.aload_n 0, 1) := by decide +kernel
theorem d_S_load_93 : decode c_S_load 93 = .ok (.getfield 15, 3) := by decide +kernel
theorem d_S_load_96 : decode c_S_load 96 = .ok (.iload 4, 2) := by decide +kernel
theorem d_S_load_98 : decode c_S_load 98 = .ok (.bipush (12), 2) := by decide +kernel
theorem d_S_load_100 : decode c_S_load 100 = .ok (.imul, 1) := by decide +kernel
theorem d_S_load_101 : decode c_S_load 101 = .ok (.iconst 1, 1) := by decide +kernel
theorem d_S_load_102 : decode c_S_load 102 = .ok (.iadd, 1) := by decide +kernel
theorem d_S_load_103 : decode c_S_load 103 = .ok (.aload_n 1, 1) := by decide +kernel
theorem d_S_load_104 : decode c_S_load 104 = .ok (.getfield 44, 3) := by decide +kernel
theorem d_S_load_107 : decode c_S_load 107 = .ok (.iload 4, 2) := by decide +kernel
theorem d_S_load_109 : decode c_S_load 109 = .ok (.iaload, 1) := by decide +kernel
theorem d_S_load_110 : decode c_S_load 110 = .ok (.iastore, 1) := by decide +kernel
theorem d_S_load_111 : decode c_S_load 111 = .ok (.aload_n 0, 1) := by decide +kernel
theorem d_S_load_112 : decode c_S_load 112 = .ok (.getfield 15, 3) := by decide +kernel
theorem d_S_load_115 : decode c_S_load 115 = .ok (.iload 4, 2) := by decide +kernel
theorem d_S_load_117 : decode c_S_load 117 = .ok (.bipush (12), 2) := by decide +kernel
theorem d_S_load_119 : decode c_S_load 119 = .ok (.imul, 1) := by decide +kernel
theorem d_S_load_120 : decode c_S_load 120 = .ok (.bipush (10), 2) := by decide +kernel
theorem d_S_load_122 : decode c_S_load 122 = .ok (.iadd, 1) := by decide +kernel
theorem d_S_load_123 : decode c_S_load 123 = .ok (.iconst 1, 1) := by decide +kernel
theorem d_S_load_124 : decode c_S_load 124 = .ok (.iastore, 1) := by decide +kernel
theorem d_S_load_125 : decode c_S_load 125 = .ok (.aload_n 0, 1) := by decide +kernel
theorem d_S_load_126 : decode c_S_load 126 = .ok (.getfield 15, 3) := by decide +kernel
theorem d_S_load_129 : decode c_S_load 129 = .ok (.iload 4, 2) := by decide +kernel
theorem d_S_load_131 : decode c_S_load 131 = .ok (.bipush (12), 2) := by decide +kernel
theorem d_S_load_133 : decode c_S_load 133 = .ok (.imul, 1) := by decide +kernel
theorem d_S_load_134 : decode c_S_load 134 = .ok (.bipush (11), 2) := by decide +kernel
theorem d_S_load_136 : decode c_S_load 136 = .ok (.iadd, 1) := by decide +kernel
theorem d_S_load_137 : decode c_S_load 137 = .ok (.aload_n 1, 1) := by decide +kernel
theorem d_S_load_138 : decode c_S_load 138 = .ok (.getfield 47, 3) := by decide +kernel
theorem d_S_load_141 : decode c_S_load 141 = .ok (.iload 4, 2) := by decide +kernel
theorem d_S_load_143 : decode c_S_load 143 = .ok (.iaload, 1) := by decide +kernel
theorem d_S_load_144 : decode c_S_load 144 = .ok (.iastore, 1) := by decide +kernel
theorem d_S_load_145 : decode c_S_load 145 = .ok (.aload_n 0, 1) := by decide +kernel
theorem d_S_load_146 : decode c_S_load 146 = .ok (.aload_n 1, 1) := by decide +kernel
theorem d_S_load_147 : decode c_S_load 147 = .ok (.aload_n 2, 1) := by decide +kernel
theorem d_S_load_148 : decode c_S_load 148 = .ok (.iload 4, 2) := by decide +kernel
theorem d_S_load_150 : decode c_S_load 150 = .ok (.iload_n 3, 1) := by decide +kernel
theorem d_S_load_151 : decode c_S_load 151 = .ok (.invokevirtual 50, 3) := by decide +kernel
theorem d_S_load_154 : decode c_S_load 154 = .ok (.iinc 4 (1), 3) := by decide +kernel
theorem d_S_load_157 : decode c_S_load 157 = .ok (.goto (-107), 3) := by decide +kernel
theorem d_S_load_160 : decode c_S_load 160 = .ok (.return_, 1) := by decide +kernel
theorem d_S_loadElements_0 : decode c_S_loadElements 0 = .ok (.iconst 0, 1) := by decide +kernel
theorem d_S_loadElements_1 : decode c_S_loadElements 1 = .ok (.istore 5, 2) := by decide +kernel
theorem d_S_loadElements_3 : decode c_S_loadElements 3 = .ok (.iload 5, 2) := by decide +kernel
theorem d_S_loadElements_5 : decode c_S_loadElements 5 = .ok (.iconst 4, 1) := by decide +kernel
theorem d_S_loadElements_6 : decode c_S_loadElements 6 = .ok (.if_icmp .ge (99), 3) := by decide +kernel
theorem d_S_loadElements_9 : decode c_S_loadElements 9 = .ok (.iload_n 3, 1) := by decide +kernel
theorem d_S_loadElements_10 : decode c_S_loadElements 10 = .ok (.iconst 4, 1) := by decide +kernel
theorem d_S_loadElements_11 : decode c_S_loadElements 11 = .ok (.imul, 1) := by decide +kernel
theorem d_S_loadElements_12 : decode c_S_loadElements 12 = .ok (.iload 5, 2) := by decide +kernel
theorem d_S_loadElements_14 : decode c_S_loadElements 14 = .ok (.iadd, 1) := by decide +kernel
theorem d_S_loadElements_15 : decode c_S_loadElements 15 = .ok (.istore 6, 2) := by decide +kernel
theorem d_S_loadElements_17 : decode c_S_loadElements 17 = .ok (.iload 4, 2) := by decide +kernel
theorem d_S_loadElements_19 : decode c_S_loadElements 19 = .ok (.iconst 4, 1) := by decide +kernel
theorem d_S_loadElements_20 : decode c_S_loadElements 20 = .ok (.imul, 1) := by decide +kernel
theorem d_S_loadElements_21 : decode c_S_loadElements 21 = .ok (.iload 5, 2) := by decide +kernel
theorem d_S_loadElements_23 : decode c_S_loadElements 23 = .ok (.iadd, 1) := by decide +kernel
theorem d_S_loadElements_24 : decode c_S_loadElements 24 = .ok (.istore 7, 2) := by decide +kernel
theorem d_S_loadElements_26 : decode c_S_loadElements 26 = .ok (.iload_n 3, 1) := by decide +kernel
theorem d_S_loadElements_27 : decode c_S_loadElements 27 = .ok (.bipush (12), 2) := by decide +kernel
theorem d_S_loadElements_29 : decode c_S_loadElements 29 = .ok (.imul, 1) := by decide +kernel
theorem d_S_loadElements_30 : decode c_S_loadElements 30 = .ok (.iconst 2, 1) := by decide +kernel
theorem d_S_loadElements_31 : decode c_S_loadElements 31 = .ok (.iadd, 1) := by decide +kernel
theorem d_S_loadElements_32 : decode c_S_loadElements 32 = .ok (.iconst 2, 1) := by decide +kernel
theorem d_S_loadElements_33 : decode c_S_loadElements 33 = .ok (.iload 5, 2) := by decide +kernel
theorem d_S_loadElements_35 : decode c_S_loadElements 35 = .ok (.imul, 1) := by decide +kernel
theorem d_S_loadElements_36 : decode c_S_loadElements 36 = .ok (.iadd, 1) := by decide +kernel
theorem d_S_loadElements_37 : decode c_S_loadElements 37 = .ok (.istore 8, 2) := by decide +kernel
theorem d_S_loadElements_39 : decode c_S_loadElements 39 = .ok (.aload_n 0, 1) := by decide +kernel
theorem d_S_loadElements_40 : decode c_S_loadElements 40 = .ok (.getfield 15, 3) := by decide +kernel
theorem d_S_loadElements_43 : decode c_S_loadElements 43 = .ok (.iload 8, 2) := by decide +kernel
theorem d_S_loadElements_45 : decode c_S_loadElements 45 = .ok (.aload_n 1, 1) := by decide +kernel
theorem d_S_loadElements_46 : decode c_S_loadElements 46 = .ok (.getfield 44, 3) := by decide +kernel
theorem d_S_loadElements_49 : decode c_S_loadElements 49 = .ok (.iload_n 3, 1) := by decide +kernel
theorem d_S_loadElements_50 : decode c_S_loadElements 50 = .ok (.iaload, 1) := by decide +kernel
theorem d_S_loadElements_51 : decode c_S_loadElements 51 = .ok (.aload_n 1, 1) := by decide +kernel
theorem d_S_loadElements_52 : decode c_S_loadElements 52 = .ok (.getfield 54, 3) := by decide +kernel
theorem d_S_loadElements_55 : decode c_S_loadElements 55 = .ok (.iload 6, 2) := by decide +kernel
theorem d_S_loadElements_57 : decode c_S_loadElements 57 = .ok (.iaload, 1) := by decide +kernel
theorem d_S_loadElements_58 : decode c_S_loadElements 58 = .ok (.aload_n 2, 1) := by decide +kernel
theorem d_S_loadElements_59 : decode c_S_loadElements 59 = .ok (.getfield 57, 3) := by decide +kernel
theorem d_S_loadElements_62 : decode c_S_loadElements 62 = .ok (.iload 7, 2) := by decide +kernel
theorem d_S_loadElements_64 : decode c_S_loadElements 64 = .ok (.iaload, 1) := by decide +kernel
theorem d_S_loadElements_65 : decode c_S_loadElements 65 = .ok (.isub, 1) := by decide +kernel
theorem d_S_loadElements_66 : decode c_S_loadElements 66 = .ok (.imul, 1) := by decide +kernel
theorem d_S_loadElements_67 : decode c_S_loadElements 67 = .ok (.iastore, 1) := by decide +kernel
theorem d_S_loadElements_68 : decode c_S_loadElements 68 = .ok (.aload_n 0, 1) := by decide +kernel
theorem d_S_loadElements_69 : decode c_S_loadElements 69 = .ok (.getfield 15, 3) := by decide +kernel
theorem d_S_loadElements_72 : decode c_S_loadElements 72 = .ok (.iload 8, 2) := by decide +kernel
theorem d_S_loadElements_74 : decode c_S_loadElements 74 = .ok (.iconst 1, 1) := by decide +kernel
theorem d_S_loadElements_75 : decode c_S_loadElements 75 = .ok (.iadd, 1) := by decide +kernel
theorem d_S_loadElements_76 : decode c_S_loadElements 76 = .ok (.aload_n 1, 1) := by decide +kernel
theorem d_S_loadElements_77 : decode c_S_loadElements 77 = .ok (.getfield 44, 3) := by decide +kernel
theorem d_S_loadElements_80 : decode c_S_loadElements 80 = .ok (.iload_n 3, 1) := by decide +kernel
theorem d_S_loadElements_81 : decode c_S_loadElements 81 = .ok (.iaload, 1) := by decide +kernel
theorem d_S_loadElements_82 : decode c_S_loadElements 82 = .ok (.aload_n 2, 1) := by decide +kernel
theorem d_S_loadElements_83 : decode c_S_loadElements 83 = .ok (.getfield 58, 3) := by decide +kernel
theorem d_S_loadElements_86 : decode c_S_loadElements 86 = .ok (.iload 7, 2) := by decide +kernel
theorem d_S_loadElements_88 : decode c_S_loadElements 88 = .ok (.iaload, 1) := by decide +kernel
theorem d_S_loadElements_89 : decode c_S_loadElements 89 = .ok (.aload_n 1, 1) := by decide +kernel
theorem d_S_loadElements_90 : decode c_S_loadElements 90 = .ok (.getfield 61, 3) := by decide +kernel
theorem d_S_loadElements_93 : decode c_S_loadElements 93 = .ok (.iload 6, 2) := by decide +kernel
theorem d_S_loadElements_95 : decode c_S_loadElements 95 = .ok (.iaload, 1) := by decide +kernel
theorem d_S_loadElements_96 : decode c_S_loadElements 96 = .ok (.isub, 1) := by decide +kernel
theorem d_S_loadElements_97 : decode c_S_loadElements 97 = .ok (.imul, 1) := by decide +kernel
theorem d_S_loadElements_98 : decode c_S_loadElements 98 = .ok (.iastore, 1) := by decide +kernel
theorem d_S_loadElements_99 : decode c_S_loadElements 99 = .ok (.iinc 5 (1), 3) := by decide +kernel
theorem d_S_loadElements_102 : decode c_S_loadElements 102 = .ok (.goto (-99), 3) := by decide +kernel
theorem d_S_loadElements_105 : decode c_S_loadElements 105 = .ok (.return_, 1) := by decide +kernel
theorem d_S_settle_0 : decode c_S_settle 0 = .ok (.iload_n 1, 1) := by decide +kernel
theorem d_S_settle_1 : decode c_S_settle 1 = .ok (.bipush (12), 2) := by decide +kernel
theorem d_S_settle_3 : decode c_S_settle 3 = .ok (.imul, 1) := by decide +kernel
theorem d_S_settle_4 : decode c_S_settle 4 = .ok (.istore_n 2, 1) := by decide +kernel
theorem d_S_settle_5 : decode c_S_settle 5 = .ok (.iconst 0, 1) := by decide +kernel
theorem d_S_settle_6 : decode c_S_settle 6 = .ok (.istore_n 3, 1) := by decide +kernel
theorem d_S_settle_7 : decode c_S_settle 7 = .ok (.iload_n 3, 1) := by decide +kernel
theorem d_S_settle_8 : decode c_S_settle 8 = .ok (.bipush (12), 2) := by decide +kernel
theorem d_S_settle_10 : decode c_S_settle 10 = .ok (.if_icmp .ge (28), 3) := by decide +kernel
theorem d_S_settle_13 : decode c_S_settle 13 = .ok (.aload_n 0, 1) := by decide +kernel
theorem d_S_settle_14 : decode c_S_settle 14 = .ok (.getfield 18, 3) := by decide +kernel
theorem d_S_settle_17 : decode c_S_settle 17 = .ok (.iload_n 2, 1) := by decide +kernel
theorem d_S_settle_18 : decode c_S_settle 18 = .ok (.bipush (12), 2) := by decide +kernel
theorem d_S_settle_20 : decode c_S_settle 20 = .ok (.iadd, 1) := by decide +kernel
theorem d_S_settle_21 : decode c_S_settle 21 = .ok (.iload_n 3, 1) := by decide +kernel
theorem d_S_settle_22 : decode c_S_settle 22 = .ok (.iadd, 1) := by decide +kernel
theorem d_S_settle_23 : decode c_S_settle 23 = .ok (.aload_n 0, 1) := by decide +kernel
theorem d_S_settle_24 : decode c_S_settle 24 = .ok (.getfield 18, 3) := by decide +kernel
theorem d_S_settle_27 : decode c_S_settle 27 = .ok (.iload_n 2, 1) := by decide +kernel
theorem d_S_settle_28 : decode c_S_settle 28 = .ok (.iload_n 3, 1) := by decide +kernel
theorem d_S_settle_29 : decode c_S_settle 29 = .ok (.iadd, 1) := by decide +kernel
theorem d_S_settle_30 : decode c_S_settle 30 = .ok (.iaload, 1) := by decide +kernel
theorem d_S_settle_31 : decode c_S_settle 31 = .ok (.iastore, 1) := by decide +kernel
theorem d_S_settle_32 : decode c_S_settle 32 = .ok (.iinc 3 (1), 3) := by decide +kernel
theorem d_S_settle_35 : decode c_S_settle 35 = .ok (.goto (-28), 3) := by decide +kernel
theorem d_S_settle_38 : decode c_S_settle 38 = .ok (.return_, 1) := by decide +kernel
theorem d_S_addBundle_0 : decode c_S_addBundle 0 = .ok (.iload_n 1, 1) := by decide +kernel
theorem d_S_addBundle_1 : decode c_S_addBundle 1 = .ok (.bipush (12), 2) := by decide +kernel
theorem d_S_addBundle_3 : decode c_S_addBundle 3 = .ok (.imul, 1) := by decide +kernel
theorem d_S_addBundle_4 : decode c_S_addBundle 4 = .ok (.istore_n 2, 1) := by decide +kernel
theorem d_S_addBundle_5 : decode c_S_addBundle 5 = .ok (.iconst 0, 1) := by decide +kernel
theorem d_S_addBundle_6 : decode c_S_addBundle 6 = .ok (.istore_n 3, 1) := by decide +kernel
theorem d_S_addBundle_7 : decode c_S_addBundle 7 = .ok (.iload_n 3, 1) := by decide +kernel
theorem d_S_addBundle_8 : decode c_S_addBundle 8 = .ok (.bipush (12), 2) := by decide +kernel
theorem d_S_addBundle_10 : decode c_S_addBundle 10 = .ok (.if_icmp .ge (31), 3) := by decide +kernel
theorem d_S_addBundle_13 : decode c_S_addBundle 13 = .ok (.aload_n 0, 1) := by decide +kernel
theorem d_S_addBundle_14 : decode c_S_addBundle 14 = .ok (.getfield 18, 3) := by decide +kernel
theorem d_S_addBundle_17 : decode c_S_addBundle 17 = .ok (.iload_n 2, 1) := by decide +kernel
theorem d_S_addBundle_18 : decode c_S_addBundle 18 = .ok (.bipush (12), 2) := by decide +kernel
theorem d_S_addBundle_20 : decode c_S_addBundle 20 = .ok (.iadd, 1) := by decide +kernel
theorem d_S_addBundle_21 : decode c_S_addBundle 21 = .ok (.iload_n 3, 1) := by decide +kernel
theorem d_S_addBundle_22 : decode c_S_addBundle 22 = .ok (.iadd, 1) := by decide +kernel
theorem d_S_addBundle_23 : decode c_S_addBundle 23 = .ok (.dup2, 1) := by decide +kernel
theorem d_S_addBundle_24 : decode c_S_addBundle 24 = .ok (.iaload, 1) := by decide +kernel
theorem d_S_addBundle_25 : decode c_S_addBundle 25 = .ok (.aload_n 0, 1) := by decide +kernel
theorem d_S_addBundle_26 : decode c_S_addBundle 26 = .ok (.getfield 15, 3) := by decide +kernel
theorem d_S_addBundle_29 : decode c_S_addBundle 29 = .ok (.iload_n 2, 1) := by decide +kernel
theorem d_S_addBundle_30 : decode c_S_addBundle 30 = .ok (.iload_n 3, 1) := by decide +kernel
theorem d_S_addBundle_31 : decode c_S_addBundle 31 = .ok (.iadd, 1) := by decide +kernel
theorem d_S_addBundle_32 : decode c_S_addBundle 32 = .ok (.iaload, 1) := by decide +kernel
theorem d_S_addBundle_33 : decode c_S_addBundle 33 = .ok (.iadd, 1) := by decide +kernel
theorem d_S_addBundle_34 : decode c_S_addBundle 34 = .ok (.iastore, 1) := by decide +kernel
theorem d_S_addBundle_35 : decode c_S_addBundle 35 = .ok (.iinc 3 (1), 3) := by decide +kernel
theorem d_S_addBundle_38 : decode c_S_addBundle 38 = .ok (.goto (-31), 3) := by decide +kernel
theorem d_S_addBundle_41 : decode c_S_addBundle 41 = .ok (.return_, 1) := by decide +kernel
theorem d_S_cents_0 : decode c_S_cents 0 = .ok (.aload_n 0, 1) := by decide +kernel
theorem d_S_cents_1 : decode c_S_cents 1 = .ok (.getfield 18, 3) := by decide +kernel
theorem d_S_cents_4 : decode c_S_cents 4 = .ok (.iload_n 1, 1) := by decide +kernel
theorem d_S_cents_5 : decode c_S_cents 5 = .ok (.bipush (12), 2) := by decide +kernel
theorem d_S_cents_7 : decode c_S_cents 7 = .ok (.imul, 1) := by decide +kernel
theorem d_S_cents_8 : decode c_S_cents 8 = .ok (.bipush (11), 2) := by decide +kernel
theorem d_S_cents_10 : decode c_S_cents 10 = .ok (.iadd, 1) := by decide +kernel
theorem d_S_cents_11 : decode c_S_cents 11 = .ok (.iaload, 1) := by decide +kernel
theorem d_S_cents_12 : decode c_S_cents 12 = .ok (.ireturn, 1) := by decide +kernel
theorem d_S_tooHeavy_0 : decode c_S_tooHeavy 0 = .ok (.aload_n 0, 1) := by decide +kernel
theorem d_S_tooHeavy_1 : decode c_S_tooHeavy 1 = .ok (.getfield 18, 3) := by decide +kernel
theorem d_S_tooHeavy_4 : decode c_S_tooHeavy 4 = .ok (.iload_n 1, 1) := by decide +kernel
theorem d_S_tooHeavy_5 : decode c_S_tooHeavy 5 = .ok (.bipush (12), 2) := by decide +kernel
theorem d_S_tooHeavy_7 : decode c_S_tooHeavy 7 = .ok (.imul, 1) := by decide +kernel
theorem d_S_tooHeavy_8 : decode c_S_tooHeavy 8 = .ok (.iconst 1, 1) := by decide +kernel
theorem d_S_tooHeavy_9 : decode c_S_tooHeavy 9 = .ok (.iadd, 1) := by decide +kernel
theorem d_S_tooHeavy_10 : decode c_S_tooHeavy 10 = .ok (.iaload, 1) := by decide +kernel
theorem d_S_tooHeavy_11 : decode c_S_tooHeavy 11 = .ok (.ifCond .le (7), 3) := by decide +kernel
theorem d_S_tooHeavy_14 : decode c_S_tooHeavy 14 = .ok (.iconst 1, 1) := by decide +kernel
theorem d_S_tooHeavy_15 : decode c_S_tooHeavy 15 = .ok (.goto (4), 3) := by decide +kernel
theorem d_S_tooHeavy_18 : decode c_S_tooHeavy 18 = .ok (.iconst 0, 1) := by decide +kernel
theorem d_S_tooHeavy_19 : decode c_S_tooHeavy 19 = .ok (.ireturn, 1) := by decide +kernel
theorem d_S_broken_0 : decode c_S_broken 0 = .ok (.iconst 0, 1) := by decide +kernel
theorem d_S_broken_1 : decode c_S_broken 1 = .ok (.istore_n 1, 1) := by decide +kernel
theorem d_S_broken_2 : decode c_S_broken 2 = .ok (.iconst 0, 1) := by decide +kernel
theorem d_S_broken_3 : decode c_S_broken 3 = .ok (.istore_n 2, 1) := by decide +kernel
theorem d_S_broken_4 : decode c_S_broken 4 = .ok (.iload_n 2, 1) := by decide +kernel
theorem d_S_broken_5 : decode c_S_broken 5 = .ok (.bipush (11), 2) := by decide +kernel
theorem d_S_broken_7 : decode c_S_broken 7 = .ok (.if_icmp .ge (32), 3) := by decide +kernel
theorem d_S_broken_10 : decode c_S_broken 10 = .ok (.aload_n 0, 1) := by decide +kernel
theorem d_S_broken_11 : decode c_S_broken 11 = .ok (.getfield 18, 3) := by decide +kernel
theorem d_S_broken_14 : decode c_S_broken 14 = .ok (.aload_n 0, 1) := by decide +kernel
theorem d_S_broken_15 : decode c_S_broken 15 = .ok (.getfield 27, 3) := by decide +kernel
theorem d_S_broken_18 : decode c_S_broken 18 = .ok (.bipush (12), 2) := by decide +kernel
theorem d_S_broken_20 : decode c_S_broken 20 = .ok (.imul, 1) := by decide +kernel
theorem d_S_broken_21 : decode c_S_broken 21 = .ok (.iload_n 2, 1) := by decide +kernel
theorem d_S_broken_22 : decode c_S_broken 22 = .ok (.iadd, 1) := by decide +kernel
theorem d_S_broken_23 : decode c_S_broken 23 = .ok (.iaload, 1) := by decide +kernel
theorem d_S_broken_24 : decode c_S_broken 24 = .ok (.ifCond .le (9), 3) := by decide +kernel
theorem d_S_broken_27 : decode c_S_broken 27 = .ok (.iload_n 1, 1) := by decide +kernel
theorem d_S_broken_28 : decode c_S_broken 28 = .ok (.iconst 1, 1) := by decide +kernel
theorem d_S_broken_29 : decode c_S_broken 29 = .ok (.iload_n 2, 1) := by decide +kernel
theorem d_S_broken_30 : decode c_S_broken 30 = .ok (.ishl, 1) := by decide +kernel
theorem d_S_broken_31 : decode c_S_broken 31 = .ok (.ior, 1) := by decide +kernel
theorem d_S_broken_32 : decode c_S_broken 32 = .ok (.istore_n 1, 1) := by decide +kernel
theorem d_S_broken_33 : decode c_S_broken 33 = .ok (.iinc 2 (1), 3) := by decide +kernel
theorem d_S_broken_36 : decode c_S_broken 36 = .ok (.goto (-32), 3) := by decide +kernel
theorem d_S_broken_39 : decode c_S_broken 39 = .ok (.iload_n 1, 1) := by decide +kernel
theorem d_S_broken_40 : decode c_S_broken 40 = .ok (.ireturn, 1) := by decide +kernel
end
section
section TKM
variable {y : MethodName} {cc : ByteArray} {nL : Nat} {rt : Option FieldType} {hh : List (Nat × Nat × Nat × Nat)} {d kc ks : Nat} {ro : Nat → Option (Nat × (Nat → Int32))} {cells slots : Nat} {Q : tk_R → tk_W → Prop} {pc : Nat} {lv : List (Option Value)} {rest : List Value} {w w1 : tk_W}
theorem tk_jinc0 {r : List (Option Value)} {n : Int} {x : Int32} (hd : decode cc pc = .ok (.iinc 0 n, 3)) (hn : 0 < nL) (kk : tk_T y cc nL rt hh d kc ks ro cells slots Q (pc + 3) (some (.int (x + Int32.ofInt n)) :: r) rest w) : tk_T y cc nL rt hh d kc ks ro cells slots Q pc (some (.int x) :: r) rest w := tk_iinc_g (lv := some (.int x) :: r) (i := 0) hd rfl rfl hn kk
theorem tk_jinc1 {a0 : Option Value} {r : List (Option Value)} {n : Int} {x : Int32} (hd : decode cc pc = .ok (.iinc 1 n, 3)) (hp : tk_p1 a0 = true) (hn : 1 < nL) (kk : tk_T y cc nL rt hh d kc ks ro cells slots Q (pc + 3) (a0 :: some (.int (x + Int32.ofInt n)) :: r) rest w) : tk_T y cc nL rt hh d kc ks ro cells slots Q pc (a0 :: some (.int x) :: r) rest w := tk_iinc_g (lv := a0 :: some (.int x) :: r) (i := 1) hd rfl hp hn kk
theorem tk_jinc2 {a0 a1 : Option Value} {r : List (Option Value)} {n : Int} {x : Int32} (hd : decode cc pc = .ok (.iinc 2 n, 3)) (hp : tk_p1 a1 = true) (hn : 2 < nL) (kk : tk_T y cc nL rt hh d kc ks ro cells slots Q (pc + 3) (a0 :: a1 :: some (.int (x + Int32.ofInt n)) :: r) rest w) : tk_T y cc nL rt hh d kc ks ro cells slots Q pc (a0 :: a1 :: some (.int x) :: r) rest w := tk_iinc_g (lv := a0 :: a1 :: some (.int x) :: r) (i := 2) hd rfl hp hn kk
theorem tk_jinc3 {a0 a1 a2 : Option Value} {r : List (Option Value)} {n : Int} {x : Int32} (hd : decode cc pc = .ok (.iinc 3 n, 3)) (hp : tk_p1 a2 = true) (hn : 3 < nL) (kk : tk_T y cc nL rt hh d kc ks ro cells slots Q (pc + 3) (a0 :: a1 :: a2 :: some (.int (x + Int32.ofInt n)) :: r) rest w) : tk_T y cc nL rt hh d kc ks ro cells slots Q pc (a0 :: a1 :: a2 :: some (.int x) :: r) rest w := tk_iinc_g (lv := a0 :: a1 :: a2 :: some (.int x) :: r) (i := 3) hd rfl hp hn kk
theorem tk_jinc4 {a0 a1 a2 a3 : Option Value} {r : List (Option Value)} {n : Int} {x : Int32} (hd : decode cc pc = .ok (.iinc 4 n, 3)) (hp : tk_p1 a3 = true) (hn : 4 < nL) (kk : tk_T y cc nL rt hh d kc ks ro cells slots Q (pc + 3) (a0 :: a1 :: a2 :: a3 :: some (.int (x + Int32.ofInt n)) :: r) rest w) : tk_T y cc nL rt hh d kc ks ro cells slots Q pc (a0 :: a1 :: a2 :: a3 :: some (.int x) :: r) rest w := tk_iinc_g (lv := a0 :: a1 :: a2 :: a3 :: some (.int x) :: r) (i := 4) hd rfl hp hn kk
theorem tk_jinc5 {a0 a1 a2 a3 a4 : Option Value} {r : List (Option Value)} {n : Int} {x : Int32} (hd : decode cc pc = .ok (.iinc 5 n, 3)) (hp : tk_p1 a4 = true) (hn : 5 < nL) (kk : tk_T y cc nL rt hh d kc ks ro cells slots Q (pc + 3) (a0 :: a1 :: a2 :: a3 :: a4 :: some (.int (x + Int32.ofInt n)) :: r) rest w) : tk_T y cc nL rt hh d kc ks ro cells slots Q pc (a0 :: a1 :: a2 :: a3 :: a4 :: some (.int x) :: r) rest w := tk_iinc_g (lv := a0 :: a1 :: a2 :: a3 :: a4 :: some (.int x) :: r) (i := 5) hd rfl hp hn kk
theorem tk_jinc6 {a0 a1 a2 a3 a4 a5 : Option Value} {r : List (Option Value)} {n : Int} {x : Int32} (hd : decode cc pc = .ok (.iinc 6 n, 3)) (hp : tk_p1 a5 = true) (hn : 6 < nL) (kk : tk_T y cc nL rt hh d kc ks ro cells slots Q (pc + 3) (a0 :: a1 :: a2 :: a3 :: a4 :: a5 :: some (.int (x + Int32.ofInt n)) :: r) rest w) : tk_T y cc nL rt hh d kc ks ro cells slots Q pc (a0 :: a1 :: a2 :: a3 :: a4 :: a5 :: some (.int x) :: r) rest w := tk_iinc_g (lv := a0 :: a1 :: a2 :: a3 :: a4 :: a5 :: some (.int x) :: r) (i := 6) hd rfl hp hn kk
theorem tk_jinc7 {a0 a1 a2 a3 a4 a5 a6 : Option Value} {r : List (Option Value)} {n : Int} {x : Int32} (hd : decode cc pc = .ok (.iinc 7 n, 3)) (hp : tk_p1 a6 = true) (hn : 7 < nL) (kk : tk_T y cc nL rt hh d kc ks ro cells slots Q (pc + 3) (a0 :: a1 :: a2 :: a3 :: a4 :: a5 :: a6 :: some (.int (x + Int32.ofInt n)) :: r) rest w) : tk_T y cc nL rt hh d kc ks ro cells slots Q pc (a0 :: a1 :: a2 :: a3 :: a4 :: a5 :: a6 :: some (.int x) :: r) rest w := tk_iinc_g (lv := a0 :: a1 :: a2 :: a3 :: a4 :: a5 :: a6 :: some (.int x) :: r) (i := 7) hd rfl hp hn kk
theorem tk_jinc8 {a0 a1 a2 a3 a4 a5 a6 a7 : Option Value} {r : List (Option Value)} {n : Int} {x : Int32} (hd : decode cc pc = .ok (.iinc 8 n, 3)) (hp : tk_p1 a7 = true) (hn : 8 < nL) (kk : tk_T y cc nL rt hh d kc ks ro cells slots Q (pc + 3) (a0 :: a1 :: a2 :: a3 :: a4 :: a5 :: a6 :: a7 :: some (.int (x + Int32.ofInt n)) :: r) rest w) : tk_T y cc nL rt hh d kc ks ro cells slots Q pc (a0 :: a1 :: a2 :: a3 :: a4 :: a5 :: a6 :: a7 :: some (.int x) :: r) rest w := tk_iinc_g (lv := a0 :: a1 :: a2 :: a3 :: a4 :: a5 :: a6 :: a7 :: some (.int x) :: r) (i := 8) hd rfl hp hn kk
theorem tk_jinc9 {a0 a1 a2 a3 a4 a5 a6 a7 a8 : Option Value} {r : List (Option Value)} {n : Int} {x : Int32} (hd : decode cc pc = .ok (.iinc 9 n, 3)) (hp : tk_p1 a8 = true) (hn : 9 < nL) (kk : tk_T y cc nL rt hh d kc ks ro cells slots Q (pc + 3) (a0 :: a1 :: a2 :: a3 :: a4 :: a5 :: a6 :: a7 :: a8 :: some (.int (x + Int32.ofInt n)) :: r) rest w) : tk_T y cc nL rt hh d kc ks ro cells slots Q pc (a0 :: a1 :: a2 :: a3 :: a4 :: a5 :: a6 :: a7 :: a8 :: some (.int x) :: r) rest w := tk_iinc_g (lv := a0 :: a1 :: a2 :: a3 :: a4 :: a5 :: a6 :: a7 :: a8 :: some (.int x) :: r) (i := 9) hd rfl hp hn kk
theorem tk_jinc10 {a0 a1 a2 a3 a4 a5 a6 a7 a8 a9 : Option Value} {r : List (Option Value)} {n : Int} {x : Int32} (hd : decode cc pc = .ok (.iinc 10 n, 3)) (hp : tk_p1 a9 = true) (hn : 10 < nL) (kk : tk_T y cc nL rt hh d kc ks ro cells slots Q (pc + 3) (a0 :: a1 :: a2 :: a3 :: a4 :: a5 :: a6 :: a7 :: a8 :: a9 :: some (.int (x + Int32.ofInt n)) :: r) rest w) : tk_T y cc nL rt hh d kc ks ro cells slots Q pc (a0 :: a1 :: a2 :: a3 :: a4 :: a5 :: a6 :: a7 :: a8 :: a9 :: some (.int x) :: r) rest w := tk_iinc_g (lv := a0 :: a1 :: a2 :: a3 :: a4 :: a5 :: a6 :: a7 :: a8 :: a9 :: some (.int x) :: r) (i := 10) hd rfl hp hn kk
theorem tk_jinc11 {a0 a1 a2 a3 a4 a5 a6 a7 a8 a9 a10 : Option Value} {r : List (Option Value)} {n : Int} {x : Int32} (hd : decode cc pc = .ok (.iinc 11 n, 3)) (hp : tk_p1 a10 = true) (hn : 11 < nL) (kk : tk_T y cc nL rt hh d kc ks ro cells slots Q (pc + 3) (a0 :: a1 :: a2 :: a3 :: a4 :: a5 :: a6 :: a7 :: a8 :: a9 :: a10 :: some (.int (x + Int32.ofInt n)) :: r) rest w) : tk_T y cc nL rt hh d kc ks ro cells slots Q pc (a0 :: a1 :: a2 :: a3 :: a4 :: a5 :: a6 :: a7 :: a8 :: a9 :: a10 :: some (.int x) :: r) rest w := tk_iinc_g (lv := a0 :: a1 :: a2 :: a3 :: a4 :: a5 :: a6 :: a7 :: a8 :: a9 :: a10 :: some (.int x) :: r) (i := 11) hd rfl hp hn kk
theorem tk_jinc12 {a0 a1 a2 a3 a4 a5 a6 a7 a8 a9 a10 a11 : Option Value} {r : List (Option Value)} {n : Int} {x : Int32} (hd : decode cc pc = .ok (.iinc 12 n, 3)) (hp : tk_p1 a11 = true) (hn : 12 < nL) (kk : tk_T y cc nL rt hh d kc ks ro cells slots Q (pc + 3) (a0 :: a1 :: a2 :: a3 :: a4 :: a5 :: a6 :: a7 :: a8 :: a9 :: a10 :: a11 :: some (.int (x + Int32.ofInt n)) :: r) rest w) : tk_T y cc nL rt hh d kc ks ro cells slots Q pc (a0 :: a1 :: a2 :: a3 :: a4 :: a5 :: a6 :: a7 :: a8 :: a9 :: a10 :: a11 :: some (.int x) :: r) rest w := tk_iinc_g (lv := a0 :: a1 :: a2 :: a3 :: a4 :: a5 :: a6 :: a7 :: a8 :: a9 :: a10 :: a11 :: some (.int x) :: r) (i := 12) hd rfl hp hn kk
theorem tk_jinc13 {a0 a1 a2 a3 a4 a5 a6 a7 a8 a9 a10 a11 a12 : Option Value} {r : List (Option Value)} {n : Int} {x : Int32} (hd : decode cc pc = .ok (.iinc 13 n, 3)) (hp : tk_p1 a12 = true) (hn : 13 < nL) (kk : tk_T y cc nL rt hh d kc ks ro cells slots Q (pc + 3) (a0 :: a1 :: a2 :: a3 :: a4 :: a5 :: a6 :: a7 :: a8 :: a9 :: a10 :: a11 :: a12 :: some (.int (x + Int32.ofInt n)) :: r) rest w) : tk_T y cc nL rt hh d kc ks ro cells slots Q pc (a0 :: a1 :: a2 :: a3 :: a4 :: a5 :: a6 :: a7 :: a8 :: a9 :: a10 :: a11 :: a12 :: some (.int x) :: r) rest w := tk_iinc_g (lv := a0 :: a1 :: a2 :: a3 :: a4 :: a5 :: a6 :: a7 :: a8 :: a9 :: a10 :: a11 :: a12 :: some (.int x) :: r) (i := 13) hd rfl hp hn kk
theorem tk_jinc14 {a0 a1 a2 a3 a4 a5 a6 a7 a8 a9 a10 a11 a12 a13 : Option Value} {r : List (Option Value)} {n : Int} {x : Int32} (hd : decode cc pc = .ok (.iinc 14 n, 3)) (hp : tk_p1 a13 = true) (hn : 14 < nL) (kk : tk_T y cc nL rt hh d kc ks ro cells slots Q (pc + 3) (a0 :: a1 :: a2 :: a3 :: a4 :: a5 :: a6 :: a7 :: a8 :: a9 :: a10 :: a11 :: a12 :: a13 :: some (.int (x + Int32.ofInt n)) :: r) rest w) : tk_T y cc nL rt hh d kc ks ro cells slots Q pc (a0 :: a1 :: a2 :: a3 :: a4 :: a5 :: a6 :: a7 :: a8 :: a9 :: a10 :: a11 :: a12 :: a13 :: some (.int x) :: r) rest w := tk_iinc_g (lv := a0 :: a1 :: a2 :: a3 :: a4 :: a5 :: a6 :: a7 :: a8 :: a9 :: a10 :: a11 :: a12 :: a13 :: some (.int x) :: r) (i := 14) hd rfl hp hn kk
theorem tk_jinc15 {a0 a1 a2 a3 a4 a5 a6 a7 a8 a9 a10 a11 a12 a13 a14 : Option Value} {r : List (Option Value)} {n : Int} {x : Int32} (hd : decode cc pc = .ok (.iinc 15 n, 3)) (hp : tk_p1 a14 = true) (hn : 15 < nL) (kk : tk_T y cc nL rt hh d kc ks ro cells slots Q (pc + 3) (a0 :: a1 :: a2 :: a3 :: a4 :: a5 :: a6 :: a7 :: a8 :: a9 :: a10 :: a11 :: a12 :: a13 :: a14 :: some (.int (x + Int32.ofInt n)) :: r) rest w) : tk_T y cc nL rt hh d kc ks ro cells slots Q pc (a0 :: a1 :: a2 :: a3 :: a4 :: a5 :: a6 :: a7 :: a8 :: a9 :: a10 :: a11 :: a12 :: a13 :: a14 :: some (.int x) :: r) rest w := tk_iinc_g (lv := a0 :: a1 :: a2 :: a3 :: a4 :: a5 :: a6 :: a7 :: a8 :: a9 :: a10 :: a11 :: a12 :: a13 :: a14 :: some (.int x) :: r) (i := 15) hd rfl hp hn kk
theorem tk_zald {a n : Nat} {f : Nat → Int32} {i : Int32} (j : Nat) (hd : decode cc pc = .ok (.baload, 1)) (hw : w[a]? = some (.inl (2, n, .inl f))) (hi : i = nI j) (hj : j < n) (hn : n < 2 ^ 31)
    (kk : tk_T y cc nL rt hh d kc ks ro cells slots Q (pc + 1) lv (.int (f j) :: rest) w) : tk_T y cc nL rt hh d kc ks ro cells slots Q pc lv (.int i :: .ref a :: rest) w := by
  intro p l e s m args below meth c D dA A ad0 n0 I ad H locs ls g1 g2 g3 g4 g5 g6 g7
  subst hi
  have h9 : (nI j).toNatClampNeg = j := nI_clamp (by omega)
  refine va_zald (D := D) I.1 I.2.1 I.2.2.2.2.2.2.2.2.2.1 g3 a 2 (tk_m_get hw) rfl (vp_in_nI hj hn) hd ?_
  rw [h9]
  exact kk p l e s m args below meth c D dA A ad0 n0 I ad H locs ls g1 g2 g3 g4 g5 g6 g7
theorem tk_zast {a n : Nat} {f : Nat → Int32} {i x : Int32} (j : Nat) (hx : vp_nar .boolean x = x) (hd : decode cc pc = .ok (.bastore, 1)) (hw : w[a]? = some (.inl (2, n, .inl f))) (hi : i = nI j) (hj : j < n) (hn : n < 2 ^ 31)
    (kk : tk_T y cc nL rt hh d kc ks ro cells slots Q (pc + 1) lv rest (w.set a (.inl (2, n, .inl (upd f j x))))) : tk_T y cc nL rt hh d kc ks ro cells slots Q pc lv (.int x :: .int i :: .ref a :: rest) w := by
  intro p l e s m args below meth c D dA A ad0 n0 I ad H locs ls g1 g2 g3 g4 g5 g6 g7
  subst hi
  have h9 : (nI j).toNatClampNeg = j := nI_clamp (by omega)
  refine va_zast (D := D) I.1 I.2.1 I.2.2.2.2.2.2.2.2.2.1 g3 g4 g5 a 2 (tk_m_get hw) rfl (vp_in_nI hj hn) hd (fun H1 locs1 e3 e4 e5 => ?_)
  rw [h9] at e3 e4
  rw [hx] at e3 e4
  have hs := tk_m_set (dA := dA) (ad := ad) (w := w) a (.inl (2, n, .inl (upd f j x)))
  have e3' : va_P D tk_cl (tk_m dA ad (w.set a (.inl (2, n, .inl (upd f j x))))) H1 := by rw [← hs]; exact e3
  have e4' : va_D A (tk_m dA ad (w.set a (.inl (2, n, .inl (upd f j x))))) := by rw [← hs]; exact e4
  exact kk p l e s m args below meth c D dA A ad0 n0 I ad H1 locs1 ls (by rw [List.length_set]; exact g1) (by rw [List.length_set]; exact g2) e3' e4' e5 (tk_wf_set g6 rfl) g7
variable {y' : MethodName} {cw : Cond} {nL' n' d' kc' ks' idx : Nat} {as st : List Value} {Q' : tk_R → tk_W → Prop}
theorem tk_callVx {b ci : Nat} {fs : List Value} {q : vw_C} {C : String} (hd : decode cc pc = .ok (.invokevirtual idx, 3)) (hl : tk_ML y.cls idx y') (hC : tk_CV y' cw nL' n') (hb : w[b]? = some (.inr (ci, fs))) (hq : tk_cl[ci]? = some q) (hq1 : q.1 = y'.cls) (hM : tk_M y' cw d' kc' ks' (.ref b :: as) w (tk_det (.inr C) w1)) (hw : w1.length = w.length) (hdd : d' < d) (hkc : cells + kc' ≤ kc) (hks : slots + ks' ≤ ks) (hrest : (rest.map fun v => v.category).sum ≤ 8) (hn : as.length = n') (hst : as.reverse ++ .ref b :: rest = st)
    (kx : tk_X y cc nL rt hh d kc ks ro (cells + kc') (slots + ks') Q pc lv C w1) : tk_T y cc nL rt hh d kc ks ro cells slots Q pc lv st w := by
  refine tk_callV hd hl hC hb hq hq1 hM hdd hkc hks hrest hn hst ?_ ?_ ?_
  · rintro r x ⟨-, rfl⟩
    exact tk_kps_same hw
  · rintro r x ⟨h1, -⟩
    cases h1
  · rintro C x ⟨h1, rfl⟩
    cases h1
    exact kx
/-- a constructor that returns, with a world that has grown -/
theorem tk_callIr {b : Nat} (hd : decode cc pc = .ok (.invokespecial idx, 3)) (hl : tk_ML y.cls idx y') (hC : tk_CI y' cw nL' n') (hM : tk_M y' cw d' kc' ks' (.ref b :: as) w (tk_det (.inl none) w1)) (hk1 : rest.all (tk_kpB w.length w1.length) = true) (hk2 : lv.all (fun o => match o with | some v => tk_kpB w.length w1.length v | none => true) = true) (hdd : d' < d) (hkc : cells + kc' ≤ kc) (hks : slots + ks' ≤ ks) (hrest : (rest.map fun v => v.category).sum ≤ 8) (hn : as.length = n') (hst : as.reverse ++ .ref b :: rest = st)
    (kr : tk_T y cc nL rt hh d kc ks ro (cells + kc') (slots + ks') Q (pc + 3) lv rest w1) : tk_T y cc nL rt hh d kc ks ro cells slots Q pc lv st w := by
  refine tk_callI hd hl hC hM hdd hkc hks hrest hn hst ?_ ?_ ?_
  · rintro r x ⟨-, rfl⟩
    exact tk_kps_of hk1 hk2
  · rintro r x ⟨h1, rfl⟩
    cases h1
    exact kr
  · rintro C x ⟨h1, -⟩
    cases h1
end TKM
end
section
/-! ===== the state: the cells of a ChargePlans at the places 0 to 28; behind them t ===== -/
abbrev Ar : Type := Nat → Int32
abbrev sG : Type := Int32 × Ar × Ar × Ar × Ar × Ar × Ar
abbrev sH : Type := Int32 × Ar × Ar × Ar × Ar × Ar × Ar × Ar
abbrev sS : Type := Int32 × Ar × Ar × Ar
abbrev sP : Type := sS × Ar × Ar × Int32 × Int32 × Int32 × Int32 × Int32
abbrev sC : Type := sS × (Nat → Int64) × Int32
abbrev ia (n : Nat) (f : Ar) : tk_E := .inl (0, n, .inl f)
abbrev wd (g : sG) (h : sH) (p : sP) (c : sC) (t : tk_W) : tk_W :=
  .inr (0, [.ref 1, .ref 8, .ref 16, .ref 23]) ::
  .inr (1, [.int g.1, .ref 2, .ref 3, .ref 4, .ref 5, .ref 6, .ref 7]) :: ia 5 g.2.1 :: ia 5 g.2.2.1 :: ia 5 g.2.2.2.1 :: ia 5 g.2.2.2.2.1 :: ia 20 g.2.2.2.2.2.1 :: ia 20 g.2.2.2.2.2.2 ::
  .inr (2, [.int h.1, .ref 9, .ref 10, .ref 11, .ref 12, .ref 13, .ref 14, .ref 15]) :: ia 4 h.2.1 :: ia 4 h.2.2.1 :: ia 16 h.2.2.2.1 :: ia 16 h.2.2.2.2.1 :: ia 4 h.2.2.2.2.2.1 :: ia 4 h.2.2.2.2.2.2.1 :: ia 20 h.2.2.2.2.2.2.2 ::
  .inr (3, [.ref 17, .ref 21, .ref 22, .int p.2.2.2.1, .int p.2.2.2.2.1, .int p.2.2.2.2.2.1, .int p.2.2.2.2.2.2.1, .int p.2.2.2.2.2.2.2]) ::
  .inr (4, [.int p.1.1, .ref 18, .ref 19, .ref 20]) :: ia 5 p.1.2.1 :: ia 60 p.1.2.2.1 :: ia 72 p.1.2.2.2 :: ia 5 p.2.1 :: ia 5 p.2.2.1 ::
  .inr (5, [.ref 24, .ref 28, .int c.2.2]) :: .inr (4, [.int c.1.1, .ref 25, .ref 26, .ref 27]) :: ia 5 c.1.2.1 :: ia 60 c.1.2.2.1 :: ia 72 c.1.2.2.2 :: .inl (1, 32, .inr (.inl c.2.1)) :: t
abbrev eI : String := "java/lang/IndexOutOfBoundsException"
abbrev eS : String := "java/lang/IllegalStateException"
abbrev eA : String := "java/lang/IllegalArgumentException"
abbrev eU : String := "java/lang/UnsupportedOperationException"
def upNames : List String := ["java/lang/RuntimeException", "java/lang/Exception"]
theorem tk_own {own : String} {ic : Nat} {E : String} {names : List String} (h : (Bundle.ownAtoms own ic E names).all (fun x => (decide (x ∈ lw_tbl) && tk_gd x) || decide (x ∈ tk_four)) = true) : ∀ x ∈ Bundle.ownAtoms own ic E names, x ∈ tk_tbl ∨ x ∈ tk_four := by
  intro x hx
  have := List.all_eq_true.mp h x hx
  simp only [Bool.or_eq_true, Bool.and_eq_true, decide_eq_true_eq] at this
  rcases this with ⟨h1, h2⟩ | h1
  · exact Or.inl (tk_in h1 h2)
  · exact Or.inr h1
end
section
set_option maxRecDepth 20000 in
theorem x_CP_requireIndex : tk_Tw "ChargePlans" 166 168 170 eI "no such number" upNames := ⟨by decide +kernel, by decide +kernel, tk_at 318 (by decide +kernel) (by decide +kernel), tk_at 13 (by decide +kernel) (by decide +kernel), tk_at 327 (by decide +kernel) (by decide +kernel), tk_own (by decide +kernel), by decide⟩
set_option maxRecDepth 20000 in
theorem x_CP_requireTurn : tk_Tw "ChargePlans" 173 175 177 eS "the call is out of turn" upNames := ⟨by decide +kernel, by decide +kernel, tk_at 211 (by decide +kernel) (by decide +kernel), tk_at 11 (by decide +kernel) (by decide +kernel), tk_at 253 (by decide +kernel) (by decide +kernel), tk_own (by decide +kernel), by decide⟩
set_option maxRecDepth 20000 in
theorem x_CP_requireArgument : tk_Tw "ChargePlans" 178 180 182 eA "a value is out of its range" upNames := ⟨by decide +kernel, by decide +kernel, tk_at 286 (by decide +kernel) (by decide +kernel), tk_at 12 (by decide +kernel) (by decide +kernel), tk_at 295 (by decide +kernel) (by decide +kernel), tk_own (by decide +kernel), by decide⟩
set_option maxRecDepth 20000 in
theorem x_CP_requireMeaning : tk_Tw "ChargePlans" 183 185 187 eU "the call has no meaning here" upNames := ⟨by decide +kernel, by decide +kernel, tk_at 355 (by decide +kernel) (by decide +kernel), tk_at 14 (by decide +kernel) (by decide +kernel), tk_at 364 (by decide +kernel) (by decide +kernel), tk_own (by decide +kernel), by decide⟩
theorem z_G_min : Cond.methodLink "ChargePlans$Goods" 34 Lib.Math.min.name ∈ tk_tbl := tk_at 415 (by decide +kernel) (by decide +kernel)
theorem z_CP_maxL : Cond.methodLink "ChargePlans" 163 Lib.MathLoose.max_long.x ∈ tk_tbl := tk_at 494 (by decide +kernel) (by decide +kernel)
theorem z_CP_minL : Cond.methodLink "ChargePlans" 148 Lib.MathLoose.min_long.x ∈ tk_tbl := tk_at 506 (by decide +kernel) (by decide +kernel)
theorem z_min1 : Cond.static Lib.Math.min.name ∈ tk_tbl := tk_at 416 (by decide +kernel) (by decide +kernel)
set_option maxRecDepth 20000 in
theorem z_min2 : Cond.code Lib.Math.min.name Lib.Math.min.code 2 (some .int) ∈ tk_tbl := tk_at 417 (by decide +kernel) (by decide +kernel)
theorem z_maxL1 : Cond.static Lib.MathLoose.max_long.x ∈ tk_tbl := tk_at 495 (by decide +kernel) (by decide +kernel)
set_option maxRecDepth 20000 in
theorem z_maxL2 : Cond.code Lib.MathLoose.max_long.x Lib.MathLoose.max_long.code 4 (some .long) ∈ tk_tbl := tk_at 496 (by decide +kernel) (by decide +kernel)
theorem z_minL1 : Cond.static Lib.MathLoose.min_long.x ∈ tk_tbl := tk_at 507 (by decide +kernel) (by decide +kernel)
set_option maxRecDepth 20000 in
theorem z_minL2 : Cond.code Lib.MathLoose.min_long.x Lib.MathLoose.min_long.code 4 (some .long) ∈ tk_tbl := tk_at 508 (by decide +kernel) (by decide +kernel)
theorem z_math : Cond.initialized "java/lang/Math" ∈ tk_tbl := tk_at 15 (by decide +kernel) (by decide +kernel)
end
section
/-! ===== the checks ===== -/
theorem c_ri_ok {i n : Int32} {w : tk_W} (h0 : ¬ i < 0) (h1 : i < n) : tk_M y_CP_requireIndex w_CP_requireIndex 0 0 0 [.int i, .int n] w (tk_det (.inl none) w) := by
  refine tk_M.of (lv := [some (.int i), some (.int n)]) (by decide) (Nat.le_of_ble_eq_true rfl) rfl ?_
  refine tk_iload_n (pc := 0) d_CP_requireIndex_0 rfl ?_
  refine tk_if_lt (pc := 1) (tgt := 9) d_CP_requireIndex_1 (by decide) (fun hb => ?_) (fun hb => ?_)
  · exact absurd hb h0
  refine tk_iload_n (pc := 4) d_CP_requireIndex_4 rfl ?_
  refine tk_iload_n (pc := 5) d_CP_requireIndex_5 rfl ?_
  refine tk_icmp_lt (pc := 6) (tgt := 19) d_CP_requireIndex_6 (by decide) (fun hb => ?_) (fun hb => ?_)
  · exact tk_return (pc := 19) d_CP_requireIndex_19 rfl (Nat.le_of_ble_eq_true rfl) (Nat.le_of_ble_eq_true rfl) ⟨rfl, rfl⟩
  · exact absurd h1 hb
theorem c_ri_no {i n : Int32} {w : tk_W} (h : i < 0 ∨ ¬ i < n) : tk_M y_CP_requireIndex w_CP_requireIndex 0 1 6 [.int i, .int n] w (tk_det (.inr eI) w) := by
  refine tk_M.of (lv := [some (.int i), some (.int n)]) (by decide) (Nat.le_of_ble_eq_true rfl) rfl ?_
  refine tk_iload_n (pc := 0) d_CP_requireIndex_0 rfl ?_
  refine tk_if_lt (pc := 1) (tgt := 9) d_CP_requireIndex_1 (by decide) (fun hb => ?_) (fun hb => ?_)
  · exact tk_throw (pc := 9) d_CP_requireIndex_9 d_CP_requireIndex_12 d_CP_requireIndex_13 d_CP_requireIndex_15 d_CP_requireIndex_18 x_CP_requireIndex (by simp) (Nat.le_of_ble_eq_true rfl) (Nat.le_of_ble_eq_true rfl) (Nat.le_of_ble_eq_true rfl) ⟨rfl, rfl⟩
  refine tk_iload_n (pc := 4) d_CP_requireIndex_4 rfl ?_
  refine tk_iload_n (pc := 5) d_CP_requireIndex_5 rfl ?_
  refine tk_icmp_lt (pc := 6) (tgt := 19) d_CP_requireIndex_6 (by decide) (fun hc => ?_) (fun hc => ?_)
  · exact absurd hc (h.elim (fun z => absurd z hb) id)
  · exact tk_throw (pc := 9) d_CP_requireIndex_9 d_CP_requireIndex_12 d_CP_requireIndex_13 d_CP_requireIndex_15 d_CP_requireIndex_18 x_CP_requireIndex (by simp) (Nat.le_of_ble_eq_true rfl) (Nat.le_of_ble_eq_true rfl) (Nat.le_of_ble_eq_true rfl) ⟨rfl, rfl⟩
theorem c_rt_ok {b : Int32} {w : tk_W} (h : ¬ b = 0) : tk_M y_CP_requireTurn w_CP_requireTurn 0 0 0 [.int b] w (tk_det (.inl none) w) := by
  refine tk_M.of (lv := [some (.int b)]) (by decide) (Nat.le_of_ble_eq_true rfl) rfl ?_
  refine tk_iload_n (pc := 0) d_CP_requireTurn_0 rfl ?_
  refine tk_if_ne (pc := 1) (tgt := 14) d_CP_requireTurn_1 (by decide) (fun hb => ?_) (fun hb => ?_)
  · exact tk_return (pc := 14) d_CP_requireTurn_14 rfl (Nat.le_of_ble_eq_true rfl) (Nat.le_of_ble_eq_true rfl) ⟨rfl, rfl⟩
  · exact absurd hb h
theorem c_rt_no {w : tk_W} : tk_M y_CP_requireTurn w_CP_requireTurn 0 1 6 [.int 0] w (tk_det (.inr eS) w) := by
  refine tk_M.of (lv := [some (.int 0)]) (by decide) (Nat.le_of_ble_eq_true rfl) rfl ?_
  refine tk_iload_n (pc := 0) d_CP_requireTurn_0 rfl ?_
  refine tk_if_ne (pc := 1) (tgt := 14) d_CP_requireTurn_1 (by decide) (fun hb => ?_) (fun hb => ?_)
  · exact absurd rfl hb
  · exact tk_throw (pc := 4) d_CP_requireTurn_4 d_CP_requireTurn_7 d_CP_requireTurn_8 d_CP_requireTurn_10 d_CP_requireTurn_13 x_CP_requireTurn (by simp) (Nat.le_of_ble_eq_true rfl) (Nat.le_of_ble_eq_true rfl) (Nat.le_of_ble_eq_true rfl) ⟨rfl, rfl⟩
theorem c_ra_ok {b : Int32} {w : tk_W} (h : ¬ b = 0) : tk_M y_CP_requireArgument w_CP_requireArgument 0 0 0 [.int b] w (tk_det (.inl none) w) := by
  refine tk_M.of (lv := [some (.int b)]) (by decide) (Nat.le_of_ble_eq_true rfl) rfl ?_
  refine tk_iload_n (pc := 0) d_CP_requireArgument_0 rfl ?_
  refine tk_if_ne (pc := 1) (tgt := 14) d_CP_requireArgument_1 (by decide) (fun hb => ?_) (fun hb => ?_)
  · exact tk_return (pc := 14) d_CP_requireArgument_14 rfl (Nat.le_of_ble_eq_true rfl) (Nat.le_of_ble_eq_true rfl) ⟨rfl, rfl⟩
  · exact absurd hb h
theorem c_ra_no {w : tk_W} : tk_M y_CP_requireArgument w_CP_requireArgument 0 1 6 [.int 0] w (tk_det (.inr eA) w) := by
  refine tk_M.of (lv := [some (.int 0)]) (by decide) (Nat.le_of_ble_eq_true rfl) rfl ?_
  refine tk_iload_n (pc := 0) d_CP_requireArgument_0 rfl ?_
  refine tk_if_ne (pc := 1) (tgt := 14) d_CP_requireArgument_1 (by decide) (fun hb => ?_) (fun hb => ?_)
  · exact absurd rfl hb
  · exact tk_throw (pc := 4) d_CP_requireArgument_4 d_CP_requireArgument_7 d_CP_requireArgument_8 d_CP_requireArgument_10 d_CP_requireArgument_13 x_CP_requireArgument (by simp) (Nat.le_of_ble_eq_true rfl) (Nat.le_of_ble_eq_true rfl) (Nat.le_of_ble_eq_true rfl) ⟨rfl, rfl⟩
theorem c_rm_ok {b : Int32} {w : tk_W} (h : ¬ b = 0) : tk_M y_CP_requireMeaning w_CP_requireMeaning 0 0 0 [.int b] w (tk_det (.inl none) w) := by
  refine tk_M.of (lv := [some (.int b)]) (by decide) (Nat.le_of_ble_eq_true rfl) rfl ?_
  refine tk_iload_n (pc := 0) d_CP_requireMeaning_0 rfl ?_
  refine tk_if_ne (pc := 1) (tgt := 14) d_CP_requireMeaning_1 (by decide) (fun hb => ?_) (fun hb => ?_)
  · exact tk_return (pc := 14) d_CP_requireMeaning_14 rfl (Nat.le_of_ble_eq_true rfl) (Nat.le_of_ble_eq_true rfl) ⟨rfl, rfl⟩
  · exact absurd hb h
theorem c_rm_no {w : tk_W} : tk_M y_CP_requireMeaning w_CP_requireMeaning 0 1 6 [.int 0] w (tk_det (.inr eU) w) := by
  refine tk_M.of (lv := [some (.int 0)]) (by decide) (Nat.le_of_ble_eq_true rfl) rfl ?_
  refine tk_iload_n (pc := 0) d_CP_requireMeaning_0 rfl ?_
  refine tk_if_ne (pc := 1) (tgt := 14) d_CP_requireMeaning_1 (by decide) (fun hb => ?_) (fun hb => ?_)
  · exact absurd rfl hb
  · exact tk_throw (pc := 4) d_CP_requireMeaning_4 d_CP_requireMeaning_7 d_CP_requireMeaning_8 d_CP_requireMeaning_10 d_CP_requireMeaning_13 x_CP_requireMeaning (by simp) (Nat.le_of_ble_eq_true rfl) (Nat.le_of_ble_eq_true rfl) (Nat.le_of_ble_eq_true rfl) ⟨rfl, rfl⟩
theorem c_rr_ok {v a b : Int32} {w : tk_W} (h0 : ¬ v < a) (h1 : ¬ b < v) : tk_M y_CP_requireRange w_CP_requireRange 1 0 0 [.int v, .int a, .int b] w (tk_det (.inl none) w) := by
  refine tk_M.of (lv := [some (.int v), some (.int a), some (.int b)]) (by decide) (Nat.le_of_ble_eq_true rfl) rfl ?_
  refine tk_iload_n (pc := 0) d_CP_requireRange_0 rfl ?_
  refine tk_iload_n (pc := 1) d_CP_requireRange_1 rfl ?_
  refine tk_icmp_lt (pc := 2) (tgt := 14) d_CP_requireRange_2 (by decide) (fun hb => ?_) (fun hb => ?_)
  · exact absurd hb h0
  refine tk_iload_n (pc := 5) d_CP_requireRange_5 rfl ?_
  refine tk_iload_n (pc := 6) d_CP_requireRange_6 rfl ?_
  refine tk_icmp_gt (pc := 7) (tgt := 14) d_CP_requireRange_7 (by decide) (fun hb => ?_) (fun hb => ?_)
  · exact absurd hb h1
  refine tk_iconst (pc := 10) (v := 1) d_CP_requireRange_10 (by decide) ?_
  refine tk_goto (pc := 11) (tgt := 15) d_CP_requireRange_11 (by decide) ?_
  refine tk_callSr (pc := 15) d_CP_requireRange_15 l_CP_72 k_CP_requireArgument (c_ra_ok (b := 1) (by decide)) rfl (Nat.le_of_ble_eq_true rfl) (Nat.le_of_ble_eq_true rfl) (Nat.le_of_ble_eq_true rfl) (Nat.le_of_ble_eq_true rfl) rfl rfl ?_
  exact tk_return (pc := 18) d_CP_requireRange_18 rfl (Nat.le_of_ble_eq_true rfl) (Nat.le_of_ble_eq_true rfl) ⟨rfl, rfl⟩
theorem c_rr_no {v a b : Int32} {w : tk_W} (h : v < a ∨ b < v) : tk_M y_CP_requireRange w_CP_requireRange 1 1 6 [.int v, .int a, .int b] w (tk_det (.inr eA) w) := by
  refine tk_M.of (lv := [some (.int v), some (.int a), some (.int b)]) (by decide) (Nat.le_of_ble_eq_true rfl) rfl ?_
  refine tk_iload_n (pc := 0) d_CP_requireRange_0 rfl ?_
  refine tk_iload_n (pc := 1) d_CP_requireRange_1 rfl ?_
  refine tk_icmp_lt (pc := 2) (tgt := 14) d_CP_requireRange_2 (by decide) (fun hb => ?_) (fun hb => ?_)
  · refine tk_iconst (pc := 14) (v := 0) d_CP_requireRange_14 (by decide) ?_
    refine tk_callSx (pc := 15) d_CP_requireRange_15 l_CP_72 k_CP_requireArgument (c_ra_no) rfl (Nat.le_of_ble_eq_true rfl) (Nat.le_of_ble_eq_true rfl) (Nat.le_of_ble_eq_true rfl) (Nat.le_of_ble_eq_true rfl) rfl rfl (by simp) ?_
    exact ⟨rfl, rfl⟩
  refine tk_iload_n (pc := 5) d_CP_requireRange_5 rfl ?_
  refine tk_iload_n (pc := 6) d_CP_requireRange_6 rfl ?_
  refine tk_icmp_gt (pc := 7) (tgt := 14) d_CP_requireRange_7 (by decide) (fun hc => ?_) (fun hc => ?_)
  · refine tk_iconst (pc := 14) (v := 0) d_CP_requireRange_14 (by decide) ?_
    refine tk_callSx (pc := 15) d_CP_requireRange_15 l_CP_72 k_CP_requireArgument (c_ra_no) rfl (Nat.le_of_ble_eq_true rfl) (Nat.le_of_ble_eq_true rfl) (Nat.le_of_ble_eq_true rfl) (Nat.le_of_ble_eq_true rfl) rfl rfl (by simp) ?_
    exact ⟨rfl, rfl⟩
  · exact absurd (h.elim (fun z => absurd z hb) id) hc
theorem c_rs_ok {u v a b : Int32} {w : tk_W} (h0 : ¬ u < a) (h1 : ¬ b < u) (h2 : ¬ v < u) (h3 : ¬ b < v) : tk_M y_CP_requireSpan w_CP_requireSpan 2 0 0 [.int u, .int v, .int a, .int b] w (tk_det (.inl none) w) := by
  refine tk_M.of (lv := [some (.int u), some (.int v), some (.int a), some (.int b)]) (by decide) (Nat.le_of_ble_eq_true rfl) rfl ?_
  refine tk_iload_n (pc := 0) d_CP_requireSpan_0 rfl ?_
  refine tk_iload_n (pc := 1) d_CP_requireSpan_1 rfl ?_
  refine tk_iload_n (pc := 2) d_CP_requireSpan_2 rfl ?_
  refine tk_callSr (pc := 3) d_CP_requireSpan_3 l_CP_45 k_CP_requireRange (c_rr_ok h0 h1) rfl (Nat.le_of_ble_eq_true rfl) (Nat.le_of_ble_eq_true rfl) (Nat.le_of_ble_eq_true rfl) (Nat.le_of_ble_eq_true rfl) rfl rfl ?_
  refine tk_iload_n (pc := 6) d_CP_requireSpan_6 rfl ?_
  refine tk_iload_n (pc := 7) d_CP_requireSpan_7 rfl ?_
  refine tk_iload_n (pc := 8) d_CP_requireSpan_8 rfl ?_
  refine tk_callSr (pc := 9) d_CP_requireSpan_9 l_CP_45 k_CP_requireRange (c_rr_ok h2 h3) rfl (Nat.le_of_ble_eq_true rfl) (Nat.le_of_ble_eq_true rfl) (Nat.le_of_ble_eq_true rfl) (Nat.le_of_ble_eq_true rfl) rfl rfl ?_
  exact tk_return (pc := 12) d_CP_requireSpan_12 rfl (Nat.le_of_ble_eq_true rfl) (Nat.le_of_ble_eq_true rfl) ⟨rfl, rfl⟩
theorem c_rs_no {u v a b : Int32} {w : tk_W} (h : (u < a ∨ b < u) ∨ (v < u ∨ b < v)) : tk_M y_CP_requireSpan w_CP_requireSpan 2 1 6 [.int u, .int v, .int a, .int b] w (tk_det (.inr eA) w) := by
  refine tk_M.of (lv := [some (.int u), some (.int v), some (.int a), some (.int b)]) (by decide) (Nat.le_of_ble_eq_true rfl) rfl ?_
  refine tk_iload_n (pc := 0) d_CP_requireSpan_0 rfl ?_
  refine tk_iload_n (pc := 1) d_CP_requireSpan_1 rfl ?_
  refine tk_iload_n (pc := 2) d_CP_requireSpan_2 rfl ?_
  by_cases h1 : u < a ∨ b < u
  · refine tk_callSx (pc := 3) d_CP_requireSpan_3 l_CP_45 k_CP_requireRange (c_rr_no h1) rfl (Nat.le_of_ble_eq_true rfl) (Nat.le_of_ble_eq_true rfl) (Nat.le_of_ble_eq_true rfl) (Nat.le_of_ble_eq_true rfl) rfl rfl (by simp) ?_
    exact ⟨rfl, rfl⟩
  · have h2 := h.resolve_left h1
    refine tk_callSr (pc := 3) d_CP_requireSpan_3 l_CP_45 k_CP_requireRange (c_rr_ok (fun z => h1 (Or.inl z)) (fun z => h1 (Or.inr z))) rfl (Nat.le_of_ble_eq_true rfl) (Nat.le_of_ble_eq_true rfl) (Nat.le_of_ble_eq_true rfl) (Nat.le_of_ble_eq_true rfl) rfl rfl ?_
    refine tk_iload_n (pc := 6) d_CP_requireSpan_6 rfl ?_
    refine tk_iload_n (pc := 7) d_CP_requireSpan_7 rfl ?_
    refine tk_iload_n (pc := 8) d_CP_requireSpan_8 rfl ?_
    refine tk_callSx (pc := 9) d_CP_requireSpan_9 l_CP_45 k_CP_requireRange (c_rr_no h2) rfl (Nat.le_of_ble_eq_true rfl) (Nat.le_of_ble_eq_true rfl) (Nat.le_of_ble_eq_true rfl) (Nat.le_of_ble_eq_true rfl) rfl rfl (by simp) ?_
    exact ⟨rfl, rfl⟩
/-! ===== goods ===== -/
theorem m_G_append {h : sH} {p : sP} {c : sC} {t : tk_W} {gk gc gs gl ga gb : Ar} {n : Nat} {k ct s : Int32} (hn : n < 5) : tk_M y_G_append w_G_append 0 0 0 [.ref 1, .int k, .int ct, .int s] (wd (nI n, gk, gc, gs, gl, ga, gb) h p c t) (tk_det (.inl (some (.int (nI n)))) (wd (nI (n + 1), upd gk n k, upd gc n ct, upd gs n s, upd gl n 6, ga, gb) h p c t)) := by
  refine tk_M.of (lv := [some (.ref 1), some (.int k), some (.int ct), some (.int s), none]) (by decide) (Nat.le_of_ble_eq_true rfl) rfl ?_
  refine tk_aload_n (pc := 0) d_G_append_0 rfl ?_
  refine tk_get (pc := 1) d_G_append_1 f_G_30 rfl rfl ?_
  refine tk_istore4 (pc := 4) d_G_append_4 rfl (by decide) ?_
  refine tk_aload_n (pc := 6) d_G_append_6 rfl ?_
  refine tk_get (pc := 7) d_G_append_7 f_G_9 rfl rfl ?_
  refine tk_iload (pc := 10) d_G_append_10 rfl ?_
  refine tk_iload_n (pc := 12) d_G_append_12 rfl ?_
  refine tk_iast (pc := 13) n d_G_append_13 rfl rfl hn (by decide) ?_
  refine tk_aload_n (pc := 14) d_G_append_14 rfl ?_
  refine tk_get (pc := 15) d_G_append_15 f_G_15 rfl rfl ?_
  refine tk_iload (pc := 18) d_G_append_18 rfl ?_
  refine tk_iload_n (pc := 20) d_G_append_20 rfl ?_
  refine tk_iast (pc := 21) n d_G_append_21 rfl rfl hn (by decide) ?_
  refine tk_aload_n (pc := 22) d_G_append_22 rfl ?_
  refine tk_get (pc := 23) d_G_append_23 f_G_18 rfl rfl ?_
  refine tk_iload (pc := 26) d_G_append_26 rfl ?_
  refine tk_iload_n (pc := 28) d_G_append_28 rfl ?_
  refine tk_iast (pc := 29) n d_G_append_29 rfl rfl hn (by decide) ?_
  refine tk_aload_n (pc := 30) d_G_append_30 rfl ?_
  refine tk_get (pc := 31) d_G_append_31 f_G_21 rfl rfl ?_
  refine tk_iload (pc := 34) d_G_append_34 rfl ?_
  refine tk_bipush (pc := 36) (v := 6) d_G_append_36 (by decide) ?_
  refine tk_iast (pc := 38) n d_G_append_38 rfl rfl hn (by decide) ?_
  refine tk_aload_n (pc := 39) d_G_append_39 rfl ?_
  refine tk_dup (pc := 40) d_G_append_40 rfl ?_
  refine tk_get (pc := 41) d_G_append_41 f_G_30 rfl rfl ?_
  refine tk_iconst (pc := 44) (v := 1) d_G_append_44 (by decide) ?_
  refine tk_iadd (pc := 45) d_G_append_45 ?_
  refine tk_put (pc := 46) d_G_append_46 f_G_30 p_G_0 rfl rfl rfl (Nat.le_of_ble_eq_true rfl) rfl ?_
  refine tk_iload (pc := 49) d_G_append_49 rfl ?_
  exact tk_ireturn (pc := 51) d_G_append_51 rfl rfl (Nat.le_of_ble_eq_true rfl) (Nat.le_of_ble_eq_true rfl) ⟨rfl, by rw [← nI_1]; rfl⟩
end
section
/-! ===== numbers ===== -/
theorem ix2 (a b : Nat) : nI a + nI b = nI (a + b) := nI_add a b
theorem ix3 (a b c : Nat) : nI a + nI b + nI c = nI (a + b + c) := by rw [nI_add, nI_add]
theorem ixm (a b : Nat) : nI a * nI b = nI (a * b) := pk_mul a b
theorem ixma (a b c : Nat) : nI a * nI b + nI c = nI (a * b + c) := by rw [pk_mul, nI_add]
theorem inc1 (i : Nat) : nI i + Int32.ofInt 1 = nI (i + 1) := by
  rw [show Int32.ofInt 1 = (1 : Int32) from rfl]; exact nI_1 i
/-- row k + 1 of the sums, its first i columns copied from row k -/
def stl (f : Ar) (k i : Nat) : Ar := fun j => if (k + 1) * 12 ≤ j ∧ j < (k + 1) * 12 + i then f (j - 12) else f j
theorem stl_0 (f : Ar) (k : Nat) : stl f k 0 = f := by
  funext j; simp only [stl]; rw [if_neg (by omega)]
theorem stl_s (f : Ar) (k i : Nat) (hi : i < 12) : upd (stl f k i) (k * 12 + 12 + i) (stl f k i (k * 12 + i)) = stl f k (i + 1) := by
  funext j
  simp only [upd, stl]
  by_cases h1 : j = k * 12 + 12 + i
  · subst h1
    rw [if_pos rfl, if_neg (by omega), if_pos (by omega)]
    congr 1; omega
  · rw [if_neg h1]
    by_cases h2 : (k + 1) * 12 ≤ j ∧ j < (k + 1) * 12 + i
    · rw [if_pos h2, if_pos (by omega)]
    · rw [if_neg h2, if_neg (by omega)]
/-- .. its first i columns grown by one bundle of good k -/
def adb (f sb : Ar) (k i : Nat) : Ar := fun j => if (k + 1) * 12 ≤ j ∧ j < (k + 1) * 12 + i then f j + sb (j - 12) else f j
theorem adb_0 (f sb : Ar) (k : Nat) : adb f sb k 0 = f := by
  funext j; simp only [adb]; rw [if_neg (by omega)]
theorem adb_s (f sb : Ar) (k i : Nat) (hi : i < 12) : upd (adb f sb k i) (k * 12 + 12 + i) (adb f sb k i (k * 12 + 12 + i) + sb (k * 12 + i)) = adb f sb k (i + 1) := by
  funext j
  simp only [upd, adb]
  by_cases h1 : j = k * 12 + 12 + i
  · subst h1
    rw [if_pos rfl, if_neg (by omega), if_pos (by omega)]
    congr 2; omega
  · rw [if_neg h1]
    by_cases h2 : (k + 1) * 12 ≤ j ∧ j < (k + 1) * 12 + i
    · rw [if_pos h2, if_pos (by omega)]
    · rw [if_neg h2, if_neg (by omega)]
/-- the rules that a row of sums breaks, of the first i -/
def brk (f : Ar) (b : Nat) : Nat → Int32
  | 0 => 0
  | i + 1 => if f (b + i) ≤ 0 then brk f b i else brk f b i ||| (1 : Int32) <<< (nI i &&& 31)
/-- what good k's bundle adds to column r -/
def pbv (g : sG) (h : sH) (ht k r : Nat) : Int32 :=
  if r = 0 then -(g.2.1 k) else if r = 1 then g.2.1 k else if r = 10 then 1 else if r = 11 then g.2.2.1 k
  else if r % 2 = 0 then g.2.1 k * (g.2.2.2.2.2.2 (k * 4 + (r - 2) / 2) - h.2.2.2.2.1 (ht * 4 + (r - 2) / 2))
  else g.2.1 k * (h.2.2.2.1 (ht * 4 + (r - 2) / 2) - g.2.2.2.2.2.1 (k * 4 + (r - 2) / 2))
def lel (g : sG) (h : sH) (ht k : Nat) (sb : Ar) (e : Nat) : Ar := fun j => if k * 12 + 2 ≤ j ∧ j < k * 12 + 2 + 2 * e then pbv g h ht k (j - k * 12) else sb j
theorem lel_0 (g : sG) (h : sH) (ht k : Nat) (sb : Ar) : lel g h ht k sb 0 = sb := by
  funext j; simp only [lel]; rw [if_neg (by omega)]
theorem lel_s (g : sG) (h : sH) (ht k : Nat) (sb : Ar) (e : Nat) (he : e < 4) : upd (upd (lel g h ht k sb e) (k * 12 + 2 + 2 * e) (g.2.1 k * (g.2.2.2.2.2.2 (k * 4 + e) - h.2.2.2.2.1 (ht * 4 + e)))) (k * 12 + 2 + 2 * e + 1) (g.2.1 k * (h.2.2.2.1 (ht * 4 + e) - g.2.2.2.2.2.1 (k * 4 + e))) = lel g h ht k sb (e + 1) := by
  funext j
  simp only [upd, lel]
  by_cases h1 : j = k * 12 + 2 + 2 * e + 1
  · subst h1
    rw [if_pos rfl, if_pos (by omega)]
    have e1 : k * 12 + 2 + 2 * e + 1 - k * 12 = 3 + 2 * e := by omega
    have e2 : (3 + 2 * e - 2) / 2 = e := by omega
    rw [e1]
    simp only [pbv]
    rw [if_neg (by omega), if_neg (by omega), if_neg (by omega), if_neg (by omega), if_neg (by omega), e2]
  · rw [if_neg h1]
    by_cases h2 : j = k * 12 + 2 + 2 * e
    · subst h2
      rw [if_pos rfl, if_pos (by omega)]
      have e1 : k * 12 + 2 + 2 * e - k * 12 = 2 + 2 * e := by omega
      have e2 : (2 + 2 * e - 2) / 2 = e := by omega
      rw [e1]
      simp only [pbv]
      rw [if_neg (by omega), if_neg (by omega), if_neg (by omega), if_neg (by omega), if_pos (by omega), e2]
    · rw [if_neg h2]
      by_cases h3 : k * 12 + 2 ≤ j ∧ j < k * 12 + 2 + 2 * e
      · rw [if_pos h3, if_pos (by omega)]
      · rw [if_neg h3, if_neg (by omega)]
/-- all columns of the first n goods -/
def pbf (g : sG) (h : sH) (ht : Nat) (sb : Ar) (n : Nat) : Ar := fun j => if j < n * 12 then pbv g h ht (j / 12) (j % 12) else sb j
theorem pbf_0 (g : sG) (h : sH) (ht : Nat) (sb : Ar) : pbf g h ht sb 0 = sb := by
  funext j; simp only [pbf]; rw [if_neg (by omega)]
theorem pbf_s (g : sG) (h : sH) (ht : Nat) (sb : Ar) (n : Nat) : lel g h ht n (upd (upd (upd (upd (pbf g h ht sb n) (n * 12 + 0) (-(g.2.1 n))) (n * 12 + 1) (g.2.1 n)) (n * 12 + 10) 1) (n * 12 + 11) (g.2.2.1 n)) 4 = pbf g h ht sb (n + 1) := by
  funext j
  simp only [upd, lel, pbf]
  by_cases h0 : j < n * 12
  · rw [if_neg (by omega), if_neg (by omega), if_neg (by omega), if_neg (by omega), if_neg (by omega), if_pos h0, if_pos (by omega)]
  · by_cases h1 : j < (n + 1) * 12
    · obtain ⟨r, rfl⟩ : ∃ r, j = n * 12 + r := ⟨j - n * 12, by omega⟩
      have hr : r < 12 := by omega
      have e1 : (n * 12 + r) / 12 = n := by omega
      have e2 : (n * 12 + r) % 12 = r := by omega
      rw [if_pos h1, e1, e2]
      by_cases h2 : n * 12 + 2 ≤ n * 12 + r ∧ n * 12 + r < n * 12 + 2 + 2 * 4
      · rw [if_pos h2, show n * 12 + r - n * 12 = r by omega]
      · rw [if_neg h2]
        have h3 : r = 0 ∨ r = 1 ∨ r = 10 ∨ r = 11 := by omega
        rcases h3 with rfl | rfl | rfl | rfl
        · rw [if_neg (by omega), if_neg (by omega), if_neg (by omega), if_pos rfl]; rfl
        · rw [if_neg (by omega), if_neg (by omega), if_pos rfl]; rfl
        · rw [if_neg (by omega), if_pos rfl]; rfl
        · rw [if_pos rfl]; rfl
    · rw [if_neg (by omega), if_neg (by omega), if_neg (by omega), if_neg (by omega), if_neg (by omega), if_neg h0, if_neg h1]
def rmin (g : sG) (k : Nat) : Int32 := if g.2.2.2.2.1 k < g.2.2.2.1 k then g.2.2.2.2.1 k else g.2.2.2.1 k
def rmf (g : sG) (sr : Ar) (n : Nat) : Ar := fun j => if j < n then rmin g j else sr j
theorem rmf_0 (g : sG) (sr : Ar) : rmf g sr 0 = sr := by
  funext j; simp only [rmf]; rw [if_neg (by omega)]
theorem rmf_s (g : sG) (sr : Ar) (n : Nat) : upd (rmf g sr n) n (rmin g n) = rmf g sr (n + 1) := by
  funext j
  simp only [upd, rmf]
  by_cases h1 : j = n
  · subst h1; rw [if_pos rfl, if_pos (by omega)]
  · rw [if_neg h1]
    by_cases h2 : j < n
    · rw [if_pos h2, if_pos (by omega)]
    · rw [if_neg h2, if_neg (by omega)]
def ldR (f : Ar) (h : sH) (ht : Nat) : Ar := upd (upd (upd f 0 (h.2.1 ht)) 1 (-(h.2.2.1 ht))) 10 (-(h.2.2.2.2.2.1 ht))
/-! Goods.room -/
theorem m_G_room {g : sG} {h : sH} {p : sP} {c : sC} {t : tk_W} {k : Nat} (hk : k < 5) : tk_M y_G_room w_G_room 0 0 0 [.ref 1, .int (nI k)] (wd g h p c t) (tk_det (.inl (some (.int (rmin g k)))) (wd g h p c t)) := by
  refine tk_M.of (lv := [some (.ref 1), some (.int (nI k))]) (by decide) (Nat.le_of_ble_eq_true rfl) rfl ?_
  refine tk_aload_n (pc := 0) d_G_room_0 rfl ?_
  refine tk_get (pc := 1) d_G_room_1 f_G_18 rfl rfl ?_
  refine tk_iload_n (pc := 4) d_G_room_4 rfl ?_
  refine tk_iald (pc := 5) k d_G_room_5 rfl rfl hk (by decide) ?_
  refine tk_aload_n (pc := 6) d_G_room_6 rfl ?_
  refine tk_get (pc := 7) d_G_room_7 f_G_21 rfl rfl ?_
  refine tk_iload_n (pc := 10) d_G_room_10 rfl ?_
  refine tk_iald (pc := 11) k d_G_room_11 rfl rfl hk (by decide) ?_
  refine tk_mmin (pc := 12) d_G_room_12 z_G_min z_min1 z_math z_min2 (Nat.le_of_ble_eq_true rfl) (Nat.le_of_ble_eq_true rfl) (Nat.le_of_ble_eq_true rfl) ?_
  exact tk_ireturn (pc := 15) d_G_room_15 rfl rfl (Nat.le_of_ble_eq_true rfl) (Nat.le_of_ble_eq_true rfl) ⟨rfl, rfl⟩
end
section
theorem m_settleP {g : sG} {h : sH} {q : Ar × Ar × Int32 × Int32 × Int32 × Int32 × Int32} {c : sC} {t : tk_W} {sn : Int32} {sr sb f : Ar} {k : Nat} (hk : k < 5) : tk_M y_S_settle w_S_settle 0 0 0 [.ref 17, .int (nI k)] (wd g h ((sn, sr, sb, f), q) c t) (tk_det (.inl none) (wd g h ((sn, sr, sb, (stl f k 12)), q) c t)) := by
  refine tk_M.of (lv := [some (.ref 17), some (.int (nI k)), none, none]) (by decide) (Nat.le_of_ble_eq_true rfl) rfl ?_
  refine tk_iload_n (pc := 0) d_S_settle_0 rfl ?_
  refine tk_bipush (pc := 1) (v := 12) d_S_settle_1 (by decide) ?_
  refine tk_imul (pc := 3) d_S_settle_3 ?_
  refine tk_istore2 (pc := 4) d_S_settle_4 rfl (by decide) ?_
  refine tk_iconst (pc := 5) (v := 0) d_S_settle_5 (by decide) ?_
  refine tk_istore3 (pc := 6) d_S_settle_6 rfl (by decide) ?_
  rw [show nI k * 12 = nI (k * 12) from ixm k 12]
  have key : ∀ (n i : Nat), i + n = 12 → tk_T y_S_settle c_S_settle 4 none [] 0 0 0 (fun _ => none) 0 0 (tk_det (.inl none) (wd g h ((sn, sr, sb, (stl f k 12)), q) c t)) 7 [some (.ref 17), some (.int (nI k)), some (.int (nI (k * 12))), some (.int (nI i))] [] (wd g h ((sn, sr, sb, (stl f k i)), q) c t) := by
    intro n
    induction n with
    | zero =>
      intro i hi
      obtain rfl : i = 12 := by omega
      refine tk_iload_n (pc := 7) d_S_settle_7 rfl ?_
      refine tk_bipush (pc := 8) (v := 12) d_S_settle_8 (by decide) ?_
      refine tk_icmp_ge (pc := 10) (tgt := 38) d_S_settle_10 (by decide) (fun hb => ?_) (fun hb => ?_)
      · exact tk_return (pc := 38) d_S_settle_38 rfl (Nat.le_of_ble_eq_true rfl) (Nat.le_of_ble_eq_true rfl) ⟨rfl, rfl⟩
      · exact absurd (show nI 12 ≤ nI 12 from by decide) hb
    | succ n ih =>
      intro i hi
      refine tk_iload_n (pc := 7) d_S_settle_7 rfl ?_
      refine tk_bipush (pc := 8) (v := 12) d_S_settle_8 (by decide) ?_
      refine tk_icmp_ge (pc := 10) (tgt := 38) d_S_settle_10 (by decide) (fun hb => ?_) (fun hb => ?_)
      · exact absurd ((nI_leI (a := 12) (b := i) (by omega) (by omega)).mp hb) (by omega)
      refine tk_aload_n (pc := 13) d_S_settle_13 rfl ?_
      refine tk_get (pc := 14) d_S_settle_14 f_S_18 rfl rfl ?_
      refine tk_iload_n (pc := 17) d_S_settle_17 rfl ?_
      refine tk_bipush (pc := 18) (v := 12) d_S_settle_18 (by decide) ?_
      refine tk_iadd (pc := 20) d_S_settle_20 ?_
      refine tk_iload_n (pc := 21) d_S_settle_21 rfl ?_
      refine tk_iadd (pc := 22) d_S_settle_22 ?_
      refine tk_aload_n (pc := 23) d_S_settle_23 rfl ?_
      refine tk_get (pc := 24) d_S_settle_24 f_S_18 rfl rfl ?_
      refine tk_iload_n (pc := 27) d_S_settle_27 rfl ?_
      refine tk_iload_n (pc := 28) d_S_settle_28 rfl ?_
      refine tk_iadd (pc := 29) d_S_settle_29 ?_
      refine tk_iald (pc := 30) (k*12+i) d_S_settle_30 rfl (ix2 _ _) (by omega) (by decide) ?_
      refine tk_iast (pc := 31) (k*12+12+i) d_S_settle_31 rfl (ix3 (k * 12) 12 i) (by omega) (by decide) ?_
      refine tk_jinc3 (pc := 32) d_S_settle_32 rfl (by decide) ?_
      refine tk_goto (pc := 35) (tgt := 7) d_S_settle_35 (by decide) ?_
      refine tk_eq rfl ?_ rfl ?_ (ih (i + 1) (by omega))
      · rw [inc1]
      · exact congrArg (fun x => wd g h ((sn, sr, sb, x), q) c t) (stl_s f k i (by omega))
  exact tk_eq rfl rfl rfl (congrArg (fun x => wd g h ((sn, sr, sb, x), q) c t) (stl_0 f k).symm) (key 12 0 rfl)
theorem m_addP {g : sG} {h : sH} {q : Ar × Ar × Int32 × Int32 × Int32 × Int32 × Int32} {c : sC} {t : tk_W} {sn : Int32} {sr sb f : Ar} {k : Nat} (hk : k < 5) : tk_M y_S_addBundle w_S_addBundle 0 0 0 [.ref 17, .int (nI k)] (wd g h ((sn, sr, sb, f), q) c t) (tk_det (.inl none) (wd g h ((sn, sr, sb, (adb f sb k 12)), q) c t)) := by
  refine tk_M.of (lv := [some (.ref 17), some (.int (nI k)), none, none]) (by decide) (Nat.le_of_ble_eq_true rfl) rfl ?_
  refine tk_iload_n (pc := 0) d_S_addBundle_0 rfl ?_
  refine tk_bipush (pc := 1) (v := 12) d_S_addBundle_1 (by decide) ?_
  refine tk_imul (pc := 3) d_S_addBundle_3 ?_
  refine tk_istore2 (pc := 4) d_S_addBundle_4 rfl (by decide) ?_
  refine tk_iconst (pc := 5) (v := 0) d_S_addBundle_5 (by decide) ?_
  refine tk_istore3 (pc := 6) d_S_addBundle_6 rfl (by decide) ?_
  rw [show nI k * 12 = nI (k * 12) from ixm k 12]
  have key : ∀ (n i : Nat), i + n = 12 → tk_T y_S_addBundle c_S_addBundle 4 none [] 0 0 0 (fun _ => none) 0 0 (tk_det (.inl none) (wd g h ((sn, sr, sb, (adb f sb k 12)), q) c t)) 7 [some (.ref 17), some (.int (nI k)), some (.int (nI (k * 12))), some (.int (nI i))] [] (wd g h ((sn, sr, sb, (adb f sb k i)), q) c t) := by
    intro n
    induction n with
    | zero =>
      intro i hi
      obtain rfl : i = 12 := by omega
      refine tk_iload_n (pc := 7) d_S_addBundle_7 rfl ?_
      refine tk_bipush (pc := 8) (v := 12) d_S_addBundle_8 (by decide) ?_
      refine tk_icmp_ge (pc := 10) (tgt := 41) d_S_addBundle_10 (by decide) (fun hb => ?_) (fun hb => ?_)
      · exact tk_return (pc := 41) d_S_addBundle_41 rfl (Nat.le_of_ble_eq_true rfl) (Nat.le_of_ble_eq_true rfl) ⟨rfl, rfl⟩
      · exact absurd (show nI 12 ≤ nI 12 from by decide) hb
    | succ n ih =>
      intro i hi
      refine tk_iload_n (pc := 7) d_S_addBundle_7 rfl ?_
      refine tk_bipush (pc := 8) (v := 12) d_S_addBundle_8 (by decide) ?_
      refine tk_icmp_ge (pc := 10) (tgt := 41) d_S_addBundle_10 (by decide) (fun hb => ?_) (fun hb => ?_)
      · exact absurd ((nI_leI (a := 12) (b := i) (by omega) (by omega)).mp hb) (by omega)
      refine tk_aload_n (pc := 13) d_S_addBundle_13 rfl ?_
      refine tk_get (pc := 14) d_S_addBundle_14 f_S_18 rfl rfl ?_
      refine tk_iload_n (pc := 17) d_S_addBundle_17 rfl ?_
      refine tk_bipush (pc := 18) (v := 12) d_S_addBundle_18 (by decide) ?_
      refine tk_iadd (pc := 20) d_S_addBundle_20 ?_
      refine tk_iload_n (pc := 21) d_S_addBundle_21 rfl ?_
      refine tk_iadd (pc := 22) d_S_addBundle_22 ?_
      refine tk_dup2 (pc := 23) d_S_addBundle_23 rfl rfl ?_
      refine tk_iald (pc := 24) (k*12+12+i) d_S_addBundle_24 rfl (ix3 (k * 12) 12 i) (by omega) (by decide) ?_
      refine tk_aload_n (pc := 25) d_S_addBundle_25 rfl ?_
      refine tk_get (pc := 26) d_S_addBundle_26 f_S_15 rfl rfl ?_
      refine tk_iload_n (pc := 29) d_S_addBundle_29 rfl ?_
      refine tk_iload_n (pc := 30) d_S_addBundle_30 rfl ?_
      refine tk_iadd (pc := 31) d_S_addBundle_31 ?_
      refine tk_iald (pc := 32) (k*12+i) d_S_addBundle_32 rfl (ix2 _ _) (by omega) (by decide) ?_
      refine tk_iadd (pc := 33) d_S_addBundle_33 ?_
      refine tk_iast (pc := 34) (k*12+12+i) d_S_addBundle_34 rfl (ix3 (k * 12) 12 i) (by omega) (by decide) ?_
      refine tk_jinc3 (pc := 35) d_S_addBundle_35 rfl (by decide) ?_
      refine tk_goto (pc := 38) (tgt := 7) d_S_addBundle_38 (by decide) ?_
      refine tk_eq rfl ?_ rfl ?_ (ih (i + 1) (by omega))
      · rw [inc1]
      · exact congrArg (fun x => wd g h ((sn, sr, sb, x), q) c t) (adb_s f sb k i (by omega))
  exact tk_eq rfl rfl rfl (congrArg (fun x => wd g h ((sn, sr, sb, x), q) c t) (adb_0 f sb k).symm) (key 12 0 rfl)
theorem m_centsP {g : sG} {h : sH} {q : Ar × Ar × Int32 × Int32 × Int32 × Int32 × Int32} {c : sC} {t : tk_W} {sn : Int32} {sr sb f : Ar} {k : Nat} (hk : k < 6) : tk_M y_S_cents w_S_cents 0 0 0 [.ref 17, .int (nI k)] (wd g h ((sn, sr, sb, f), q) c t) (tk_det (.inl (some (.int (f (k * 12 + 11))))) (wd g h ((sn, sr, sb, f), q) c t)) := by
  refine tk_M.of (lv := [some (.ref 17), some (.int (nI k))]) (by decide) (Nat.le_of_ble_eq_true rfl) rfl ?_
  refine tk_aload_n (pc := 0) d_S_cents_0 rfl ?_
  refine tk_get (pc := 1) d_S_cents_1 f_S_18 rfl rfl ?_
  refine tk_iload_n (pc := 4) d_S_cents_4 rfl ?_
  refine tk_bipush (pc := 5) (v := 12) d_S_cents_5 (by decide) ?_
  refine tk_imul (pc := 7) d_S_cents_7 ?_
  refine tk_bipush (pc := 8) (v := 11) d_S_cents_8 (by decide) ?_
  refine tk_iadd (pc := 10) d_S_cents_10 ?_
  refine tk_iald (pc := 11) (k*12+11) d_S_cents_11 rfl (ixma k 12 11) (by omega) (by decide) ?_
  exact tk_ireturn (pc := 12) d_S_cents_12 rfl rfl (Nat.le_of_ble_eq_true rfl) (Nat.le_of_ble_eq_true rfl) ⟨rfl, rfl⟩
theorem m_heavyP {g : sG} {h : sH} {q : Ar × Ar × Int32 × Int32 × Int32 × Int32 × Int32} {c : sC} {t : tk_W} {sn : Int32} {sr sb f : Ar} {k : Nat} (hk : k < 6) : tk_M y_S_tooHeavy w_S_tooHeavy 0 0 0 [.ref 17, .int (nI k)] (wd g h ((sn, sr, sb, f), q) c t) (tk_det (.inl (some (.int (if f (k * 12 + 1) ≤ 0 then 0 else 1)))) (wd g h ((sn, sr, sb, f), q) c t)) := by
  refine tk_M.of (lv := [some (.ref 17), some (.int (nI k))]) (by decide) (Nat.le_of_ble_eq_true rfl) rfl ?_
  refine tk_aload_n (pc := 0) d_S_tooHeavy_0 rfl ?_
  refine tk_get (pc := 1) d_S_tooHeavy_1 f_S_18 rfl rfl ?_
  refine tk_iload_n (pc := 4) d_S_tooHeavy_4 rfl ?_
  refine tk_bipush (pc := 5) (v := 12) d_S_tooHeavy_5 (by decide) ?_
  refine tk_imul (pc := 7) d_S_tooHeavy_7 ?_
  refine tk_iconst (pc := 8) (v := 1) d_S_tooHeavy_8 (by decide) ?_
  refine tk_iadd (pc := 9) d_S_tooHeavy_9 ?_
  refine tk_iald (pc := 10) (k*12+1) d_S_tooHeavy_10 rfl (ixma k 12 1) (by omega) (by decide) ?_
  refine tk_if_le (pc := 11) (tgt := 18) d_S_tooHeavy_11 (by decide) (fun hb => ?_) (fun hb => ?_)
  · refine tk_iconst (pc := 18) (v := 0) d_S_tooHeavy_18 (by decide) ?_
    exact tk_ireturn (pc := 19) d_S_tooHeavy_19 rfl rfl (Nat.le_of_ble_eq_true rfl) (Nat.le_of_ble_eq_true rfl) ⟨by rw [if_pos hb], rfl⟩
  · refine tk_iconst (pc := 14) (v := 1) d_S_tooHeavy_14 (by decide) ?_
    refine tk_goto (pc := 15) (tgt := 19) d_S_tooHeavy_15 (by decide) ?_
    exact tk_ireturn (pc := 19) d_S_tooHeavy_19 rfl rfl (Nat.le_of_ble_eq_true rfl) (Nat.le_of_ble_eq_true rfl) ⟨by rw [if_neg hb], rfl⟩
theorem m_brokenP {g : sG} {h : sH} {q : Ar × Ar × Int32 × Int32 × Int32 × Int32 × Int32} {c : sC} {t : tk_W} {n : Nat} {sr sb f : Ar} (hn : n < 6) : tk_M y_S_broken w_S_broken 0 0 0 [.ref 17] (wd g h (((nI n), sr, sb, f), q) c t) (tk_det (.inl (some (.int (brk f (n * 12) 11)))) (wd g h (((nI n), sr, sb, f), q) c t)) := by
  refine tk_M.of (lv := [some (.ref 17), none, none]) (by decide) (Nat.le_of_ble_eq_true rfl) rfl ?_
  refine tk_iconst (pc := 0) (v := 0) d_S_broken_0 (by decide) ?_
  refine tk_istore1 (pc := 1) d_S_broken_1 rfl (by decide) ?_
  refine tk_iconst (pc := 2) (v := 0) d_S_broken_2 (by decide) ?_
  refine tk_istore2 (pc := 3) d_S_broken_3 rfl (by decide) ?_
  have key : ∀ (m i : Nat), i + m = 11 → tk_T y_S_broken c_S_broken 3 (some .int) [] 0 0 0 (fun _ => none) 0 0 (tk_det (.inl (some (.int (brk f (n * 12) 11)))) (wd g h (((nI n), sr, sb, f), q) c t)) 4 [some (.ref 17), some (.int (brk f (n * 12) i)), some (.int (nI i))] [] (wd g h (((nI n), sr, sb, f), q) c t) := by
    intro m
    induction m with
    | zero =>
      intro i hi
      obtain rfl : i = 11 := by omega
      refine tk_iload_n (pc := 4) d_S_broken_4 rfl ?_
      refine tk_bipush (pc := 5) (v := 11) d_S_broken_5 (by decide) ?_
      refine tk_icmp_ge (pc := 7) (tgt := 39) d_S_broken_7 (by decide) (fun hb => ?_) (fun hb => ?_)
      · refine tk_iload_n (pc := 39) d_S_broken_39 rfl ?_
        exact tk_ireturn (pc := 40) d_S_broken_40 rfl rfl (Nat.le_of_ble_eq_true rfl) (Nat.le_of_ble_eq_true rfl) ⟨rfl, rfl⟩
      · exact absurd (show nI 11 ≤ nI 11 from by decide) hb
    | succ m ih =>
      intro i hi
      refine tk_iload_n (pc := 4) d_S_broken_4 rfl ?_
      refine tk_bipush (pc := 5) (v := 11) d_S_broken_5 (by decide) ?_
      refine tk_icmp_ge (pc := 7) (tgt := 39) d_S_broken_7 (by decide) (fun hb => ?_) (fun hb => ?_)
      · exact absurd ((nI_leI (a := 11) (b := i) (by omega) (by omega)).mp hb) (by omega)
      refine tk_aload_n (pc := 10) d_S_broken_10 rfl ?_
      refine tk_get (pc := 11) d_S_broken_11 f_S_18 rfl rfl ?_
      refine tk_aload_n (pc := 14) d_S_broken_14 rfl ?_
      refine tk_get (pc := 15) d_S_broken_15 f_S_27 rfl rfl ?_
      refine tk_bipush (pc := 18) (v := 12) d_S_broken_18 (by decide) ?_
      refine tk_imul (pc := 20) d_S_broken_20 ?_
      refine tk_iload_n (pc := 21) d_S_broken_21 rfl ?_
      refine tk_iadd (pc := 22) d_S_broken_22 ?_
      refine tk_iald (pc := 23) (n*12+i) d_S_broken_23 rfl (ixma n 12 i) (by omega) (by decide) ?_
      refine tk_if_le (pc := 24) (tgt := 33) d_S_broken_24 (by decide) (fun hc => ?_) (fun hc => ?_)
      · refine tk_jinc2 (pc := 33) d_S_broken_33 rfl (by decide) ?_
        refine tk_goto (pc := 36) (tgt := 4) d_S_broken_36 (by decide) ?_
        refine tk_eq rfl ?_ rfl rfl (ih (i + 1) (by omega))
        rw [inc1]
        simp only [brk]
        rw [if_pos hc]
      · refine tk_iload_n (pc := 27) d_S_broken_27 rfl ?_
        refine tk_iconst (pc := 28) (v := 1) d_S_broken_28 (by decide) ?_
        refine tk_iload_n (pc := 29) d_S_broken_29 rfl ?_
        refine tk_ishl (pc := 30) d_S_broken_30 ?_
        refine tk_ior (pc := 31) d_S_broken_31 ?_
        refine tk_istore1 (pc := 32) d_S_broken_32 rfl (by decide) ?_
        refine tk_jinc2 (pc := 33) d_S_broken_33 rfl (by decide) ?_
        refine tk_goto (pc := 36) (tgt := 4) d_S_broken_36 (by decide) ?_
        refine tk_eq rfl ?_ rfl rfl (ih (i + 1) (by omega))
        rw [inc1]
        simp only [brk]
        rw [if_neg hc]
  exact key 11 0 rfl
theorem m_elemsP {g : sG} {h : sH} {q : Ar × Ar × Int32 × Int32 × Int32 × Int32 × Int32} {c : sC} {t : tk_W} {sn : Int32} {sr sb f : Ar} {k ht : Nat} (hk : k < 5) (hh : ht < 4) : tk_M y_S_loadElements w_S_loadElements 0 0 0 [.ref 17, .ref 1, .ref 8, .int (nI k), .int (nI ht)] (wd g h ((sn, sr, sb, f), q) c t) (tk_det (.inl none) (wd g h ((sn, sr, (lel g h ht k sb 4), f), q) c t)) := by
  refine tk_M.of (lv := [some (.ref 17), some (.ref 1), some (.ref 8), some (.int (nI k)), some (.int (nI ht)), none, none, none, none]) (by decide) (Nat.le_of_ble_eq_true rfl) rfl ?_
  refine tk_iconst (pc := 0) (v := 0) d_S_loadElements_0 (by decide) ?_
  refine tk_istore5 (pc := 1) d_S_loadElements_1 rfl (by decide) ?_
  have key : ∀ (m e : Nat), e + m = 4 → ∀ (o6 o7 o8 : Option Value), (tk_p1 o6 = true ∧ tk_p1 o7 = true) → tk_T y_S_loadElements c_S_loadElements 9 none [] 0 0 0 (fun _ => none) 0 0 (tk_det (.inl none) (wd g h ((sn, sr, (lel g h ht k sb 4), f), q) c t)) 3 [some (.ref 17), some (.ref 1), some (.ref 8), some (.int (nI k)), some (.int (nI ht)), some (.int (nI e)), o6, o7, o8] [] (wd g h ((sn, sr, (lel g h ht k sb e), f), q) c t) := by
    intro m
    induction m with
    | zero =>
      intro e he o6 o7 o8 ho
      obtain rfl : e = 4 := by omega
      refine tk_iload (pc := 3) d_S_loadElements_3 rfl ?_
      refine tk_iconst (pc := 5) (v := 4) d_S_loadElements_5 (by decide) ?_
      refine tk_icmp_ge (pc := 6) (tgt := 105) d_S_loadElements_6 (by decide) (fun hb => ?_) (fun hb => ?_)
      · exact tk_return (pc := 105) d_S_loadElements_105 rfl (Nat.le_of_ble_eq_true rfl) (Nat.le_of_ble_eq_true rfl) ⟨rfl, rfl⟩
      · exact absurd (show nI 4 ≤ nI 4 from by decide) hb
    | succ m ih =>
      intro e he o6 o7 o8 ho
      refine tk_iload (pc := 3) d_S_loadElements_3 rfl ?_
      refine tk_iconst (pc := 5) (v := 4) d_S_loadElements_5 (by decide) ?_
      refine tk_icmp_ge (pc := 6) (tgt := 105) d_S_loadElements_6 (by decide) (fun hb => ?_) (fun hb => ?_)
      · exact absurd ((nI_leI (a := 4) (b := e) (by omega) (by omega)).mp hb) (by omega)
      refine tk_iload_n (pc := 9) d_S_loadElements_9 rfl ?_
      refine tk_iconst (pc := 10) (v := 4) d_S_loadElements_10 (by decide) ?_
      refine tk_imul (pc := 11) d_S_loadElements_11 ?_
      refine tk_iload (pc := 12) d_S_loadElements_12 rfl ?_
      refine tk_iadd (pc := 14) d_S_loadElements_14 ?_
      rw [show nI k * 4 + nI e = nI (k * 4 + e) from ixma k 4 e]
      refine tk_istore6 (pc := 15) d_S_loadElements_15 rfl (by decide) ?_
      refine tk_iload (pc := 17) d_S_loadElements_17 rfl ?_
      refine tk_iconst (pc := 19) (v := 4) d_S_loadElements_19 (by decide) ?_
      refine tk_imul (pc := 20) d_S_loadElements_20 ?_
      refine tk_iload (pc := 21) d_S_loadElements_21 rfl ?_
      refine tk_iadd (pc := 23) d_S_loadElements_23 ?_
      rw [show nI ht * 4 + nI e = nI (ht * 4 + e) from ixma ht 4 e]
      refine tk_istore7 (pc := 24) d_S_loadElements_24 rfl (by decide) ?_
      refine tk_iload_n (pc := 26) d_S_loadElements_26 rfl ?_
      refine tk_bipush (pc := 27) (v := 12) d_S_loadElements_27 (by decide) ?_
      refine tk_imul (pc := 29) d_S_loadElements_29 ?_
      refine tk_iconst (pc := 30) (v := 2) d_S_loadElements_30 (by decide) ?_
      refine tk_iadd (pc := 31) d_S_loadElements_31 ?_
      refine tk_iconst (pc := 32) (v := 2) d_S_loadElements_32 (by decide) ?_
      refine tk_iload (pc := 33) d_S_loadElements_33 rfl ?_
      refine tk_imul (pc := 35) d_S_loadElements_35 ?_
      refine tk_iadd (pc := 36) d_S_loadElements_36 ?_
      rw [show nI k * 12 + 2 + 2 * nI e = nI (k * 12 + 2 + 2 * e) from by rw [show nI k * 12 = nI (k * 12) from ixm k 12, show (2 : Int32) * nI e = nI (2 * e) from ixm 2 e, show nI (k * 12) + 2 = nI (k * 12 + 2) from ix2 _ 2, ix2]]
      refine tk_istore8 (pc := 37) d_S_loadElements_37 rfl (by decide) ?_
      refine tk_aload_n (pc := 39) d_S_loadElements_39 rfl ?_
      refine tk_get (pc := 40) d_S_loadElements_40 f_S_15 rfl rfl ?_
      refine tk_iload (pc := 43) d_S_loadElements_43 rfl ?_
      refine tk_aload_n (pc := 45) d_S_loadElements_45 rfl ?_
      refine tk_get (pc := 46) d_S_loadElements_46 f_S_44 rfl rfl ?_
      refine tk_iload_n (pc := 49) d_S_loadElements_49 rfl ?_
      refine tk_iald (pc := 50) k d_S_loadElements_50 rfl rfl hk (by decide) ?_
      refine tk_aload_n (pc := 51) d_S_loadElements_51 rfl ?_
      refine tk_get (pc := 52) d_S_loadElements_52 f_S_54 rfl rfl ?_
      refine tk_iload (pc := 55) d_S_loadElements_55 rfl ?_
      refine tk_iald (pc := 57) (k*4+e) d_S_loadElements_57 rfl rfl (by omega) (by decide) ?_
      refine tk_aload_n (pc := 58) d_S_loadElements_58 rfl ?_
      refine tk_get (pc := 59) d_S_loadElements_59 f_S_57 rfl rfl ?_
      refine tk_iload (pc := 62) d_S_loadElements_62 rfl ?_
      refine tk_iald (pc := 64) (ht*4+e) d_S_loadElements_64 rfl rfl (by omega) (by decide) ?_
      refine tk_isub (pc := 65) d_S_loadElements_65 ?_
      refine tk_imul (pc := 66) d_S_loadElements_66 ?_
      refine tk_iast (pc := 67) (k*12+2+2*e) d_S_loadElements_67 rfl rfl (by omega) (by decide) ?_
      refine tk_aload_n (pc := 68) d_S_loadElements_68 rfl ?_
      refine tk_get (pc := 69) d_S_loadElements_69 f_S_15 rfl rfl ?_
      refine tk_iload (pc := 72) d_S_loadElements_72 rfl ?_
      refine tk_iconst (pc := 74) (v := 1) d_S_loadElements_74 (by decide) ?_
      refine tk_iadd (pc := 75) d_S_loadElements_75 ?_
      refine tk_aload_n (pc := 76) d_S_loadElements_76 rfl ?_
      refine tk_get (pc := 77) d_S_loadElements_77 f_S_44 rfl rfl ?_
      refine tk_iload_n (pc := 80) d_S_loadElements_80 rfl ?_
      refine tk_iald (pc := 81) k d_S_loadElements_81 rfl rfl hk (by decide) ?_
      refine tk_aload_n (pc := 82) d_S_loadElements_82 rfl ?_
      refine tk_get (pc := 83) d_S_loadElements_83 f_S_58 rfl rfl ?_
      refine tk_iload (pc := 86) d_S_loadElements_86 rfl ?_
      refine tk_iald (pc := 88) (ht*4+e) d_S_loadElements_88 rfl rfl (by omega) (by decide) ?_
      refine tk_aload_n (pc := 89) d_S_loadElements_89 rfl ?_
      refine tk_get (pc := 90) d_S_loadElements_90 f_S_61 rfl rfl ?_
      refine tk_iload (pc := 93) d_S_loadElements_93 rfl ?_
      refine tk_iald (pc := 95) (k*4+e) d_S_loadElements_95 rfl rfl (by omega) (by decide) ?_
      refine tk_isub (pc := 96) d_S_loadElements_96 ?_
      refine tk_imul (pc := 97) d_S_loadElements_97 ?_
      refine tk_iast (pc := 98) (k*12+2+2*e+1) d_S_loadElements_98 rfl (ix2 _ 1) (by omega) (by decide) ?_
      refine tk_jinc5 (pc := 99) d_S_loadElements_99 rfl (by decide) ?_
      refine tk_goto (pc := 102) (tgt := 3) d_S_loadElements_102 (by decide) ?_
      refine tk_eq rfl ?_ rfl ?_ (ih (e + 1) (by omega) (some (.int (nI (k * 4 + e)))) (some (.int (nI (ht * 4 + e)))) (some (.int (nI (k * 12 + 2 + 2 * e)))) ⟨rfl, rfl⟩)
      · rw [inc1]
      · exact congrArg (fun x => wd g h ((sn, sr, x, f), q) c t) (lel_s g h ht k sb e (by omega))
  exact tk_eq rfl rfl rfl (congrArg (fun x => wd g h ((sn, sr, x, f), q) c t) (lel_0 g h ht k sb).symm) (key 4 0 rfl none none none ⟨rfl, rfl⟩)
theorem m_loadP {gn : Nat} {gt : Ar × Ar × Ar × Ar × Ar × Ar} {h : sH} {q : Ar × Ar × Int32 × Int32 × Int32 × Int32 × Int32} {c : sC} {t : tk_W} {sn : Int32} {sr sb f : Ar} {ht : Nat} (hg : gn < 6) (hh : ht < 4) : tk_M y_S_load w_S_load 1 0 0 [.ref 17, .ref 1, .ref 8, .int (nI ht)] (wd (nI gn, gt) h ((sn, sr, sb, f), q) c t) (tk_det (.inl none) (wd (nI gn, gt) h (((nI gn), (rmf (nI gn, gt) sr gn), (pbf (nI gn, gt) h ht sb gn), (ldR f h ht)), q) c t)) := by
  refine tk_M.of (lv := [some (.ref 17), some (.ref 1), some (.ref 8), some (.int (nI ht)), none]) (by decide) (Nat.le_of_ble_eq_true rfl) rfl ?_
  refine tk_aload_n (pc := 0) d_S_load_0 rfl ?_
  refine tk_aload_n (pc := 1) d_S_load_1 rfl ?_
  refine tk_get (pc := 2) d_S_load_2 f_S_21 rfl rfl ?_
  refine tk_put (pc := 5) d_S_load_5 f_S_27 p_S_0 rfl rfl rfl (Nat.le_of_ble_eq_true rfl) rfl ?_
  refine tk_aload_n (pc := 8) d_S_load_8 rfl ?_
  refine tk_get (pc := 9) d_S_load_9 f_S_18 rfl rfl ?_
  refine tk_iconst (pc := 12) (v := 0) d_S_load_12 (by decide) ?_
  refine tk_aload_n (pc := 13) d_S_load_13 rfl ?_
  refine tk_get (pc := 14) d_S_load_14 f_S_30 rfl rfl ?_
  refine tk_iload_n (pc := 17) d_S_load_17 rfl ?_
  refine tk_iald (pc := 18) ht d_S_load_18 rfl rfl hh (by decide) ?_
  refine tk_iast (pc := 19) 0 d_S_load_19 rfl rfl (by omega) (by decide) ?_
  refine tk_aload_n (pc := 20) d_S_load_20 rfl ?_
  refine tk_get (pc := 21) d_S_load_21 f_S_18 rfl rfl ?_
  refine tk_iconst (pc := 24) (v := 1) d_S_load_24 (by decide) ?_
  refine tk_aload_n (pc := 25) d_S_load_25 rfl ?_
  refine tk_get (pc := 26) d_S_load_26 f_S_35 rfl rfl ?_
  refine tk_iload_n (pc := 29) d_S_load_29 rfl ?_
  refine tk_iald (pc := 30) ht d_S_load_30 rfl rfl hh (by decide) ?_
  refine tk_ineg (pc := 31) d_S_load_31 ?_
  refine tk_iast (pc := 32) 1 d_S_load_32 rfl rfl (by omega) (by decide) ?_
  refine tk_aload_n (pc := 33) d_S_load_33 rfl ?_
  refine tk_get (pc := 34) d_S_load_34 f_S_18 rfl rfl ?_
  refine tk_bipush (pc := 37) (v := 10) d_S_load_37 (by decide) ?_
  refine tk_aload_n (pc := 39) d_S_load_39 rfl ?_
  refine tk_get (pc := 40) d_S_load_40 f_S_38 rfl rfl ?_
  refine tk_iload_n (pc := 43) d_S_load_43 rfl ?_
  refine tk_iald (pc := 44) ht d_S_load_44 rfl rfl hh (by decide) ?_
  refine tk_ineg (pc := 45) d_S_load_45 ?_
  refine tk_iast (pc := 46) 10 d_S_load_46 rfl rfl (by omega) (by decide) ?_
  refine tk_iconst (pc := 47) (v := 0) d_S_load_47 (by decide) ?_
  refine tk_istore4 (pc := 48) d_S_load_48 rfl (by decide) ?_
  have key : ∀ (m i : Nat), i + m = gn → tk_T y_S_load c_S_load 5 none [] 1 0 0 (fun _ => none) 0 0 (tk_det (.inl none) (wd (nI gn, gt) h (((nI gn), (rmf (nI gn, gt) sr gn), (pbf (nI gn, gt) h ht sb gn), (ldR f h ht)), q) c t)) 50 [some (.ref 17), some (.ref 1), some (.ref 8), some (.int (nI ht)), some (.int (nI i))] [] (wd (nI gn, gt) h (((nI gn), (rmf (nI gn, gt) sr i), (pbf (nI gn, gt) h ht sb i), (ldR f h ht)), q) c t) := by
    intro m
    induction m with
    | zero =>
      intro i hi
      obtain rfl : i = gn := by omega
      refine tk_iload (pc := 50) d_S_load_50 rfl ?_
      refine tk_aload_n (pc := 52) d_S_load_52 rfl ?_
      refine tk_get (pc := 53) d_S_load_53 f_S_27 rfl rfl ?_
      refine tk_icmp_ge (pc := 56) (tgt := 160) d_S_load_56 (by decide) (fun hb => ?_) (fun hb => ?_)
      · exact tk_return (pc := 160) d_S_load_160 rfl (Nat.le_of_ble_eq_true rfl) (Nat.le_of_ble_eq_true rfl) ⟨rfl, rfl⟩
      · exact absurd ((nI_leI (a := i) (b := i) (by omega) (by omega)).mpr (Nat.le_refl _)) hb
    | succ m ih =>
      intro i hi
      refine tk_iload (pc := 50) d_S_load_50 rfl ?_
      refine tk_aload_n (pc := 52) d_S_load_52 rfl ?_
      refine tk_get (pc := 53) d_S_load_53 f_S_27 rfl rfl ?_
      refine tk_icmp_ge (pc := 56) (tgt := 160) d_S_load_56 (by decide) (fun hb => ?_) (fun hb => ?_)
      · exact absurd ((nI_leI (a := gn) (b := i) (by omega) (by omega)).mp hb) (by omega)
      refine tk_aload_n (pc := 59) d_S_load_59 rfl ?_
      refine tk_get (pc := 60) d_S_load_60 f_S_9 rfl rfl ?_
      refine tk_iload (pc := 63) d_S_load_63 rfl ?_
      refine tk_aload_n (pc := 65) d_S_load_65 rfl ?_
      refine tk_iload (pc := 66) d_S_load_66 rfl ?_
      refine tk_callVr (pc := 68) d_S_load_68 l_S_41 k_G_room rfl rfl rfl (m_G_room (k := i) (by omega)) rfl (Nat.le_of_ble_eq_true rfl) (Nat.le_of_ble_eq_true rfl) (Nat.le_of_ble_eq_true rfl) (Nat.le_of_ble_eq_true rfl) rfl rfl ?_
      refine tk_iast (pc := 71) i d_S_load_71 rfl rfl (by omega) (by decide) ?_
      refine tk_aload_n (pc := 72) d_S_load_72 rfl ?_
      refine tk_get (pc := 73) d_S_load_73 f_S_15 rfl rfl ?_
      refine tk_iload (pc := 76) d_S_load_76 rfl ?_
      refine tk_bipush (pc := 78) (v := 12) d_S_load_78 (by decide) ?_
      refine tk_imul (pc := 80) d_S_load_80 ?_
      refine tk_iconst (pc := 81) (v := 0) d_S_load_81 (by decide) ?_
      refine tk_iadd (pc := 82) d_S_load_82 ?_
      refine tk_aload_n (pc := 83) d_S_load_83 rfl ?_
      refine tk_get (pc := 84) d_S_load_84 f_S_44 rfl rfl ?_
      refine tk_iload (pc := 87) d_S_load_87 rfl ?_
      refine tk_iald (pc := 89) i d_S_load_89 rfl rfl (by omega) (by decide) ?_
      refine tk_ineg (pc := 90) d_S_load_90 ?_
      refine tk_iast (pc := 91) (i*12+0) d_S_load_91 rfl (ixma i 12 0) (by omega) (by decide) ?_
      refine tk_aload_n (pc := 92) d_S_load_92 rfl ?_
      refine tk_get (pc := 93) d_S_load_93 f_S_15 rfl rfl ?_
      refine tk_iload (pc := 96) d_S_load_96 rfl ?_
      refine tk_bipush (pc := 98) (v := 12) d_S_load_98 (by decide) ?_
      refine tk_imul (pc := 100) d_S_load_100 ?_
      refine tk_iconst (pc := 101) (v := 1) d_S_load_101 (by decide) ?_
      refine tk_iadd (pc := 102) d_S_load_102 ?_
      refine tk_aload_n (pc := 103) d_S_load_103 rfl ?_
      refine tk_get (pc := 104) d_S_load_104 f_S_44 rfl rfl ?_
      refine tk_iload (pc := 107) d_S_load_107 rfl ?_
      refine tk_iald (pc := 109) i d_S_load_109 rfl rfl (by omega) (by decide) ?_
      refine tk_iast (pc := 110) (i*12+1) d_S_load_110 rfl (ixma i 12 1) (by omega) (by decide) ?_
      refine tk_aload_n (pc := 111) d_S_load_111 rfl ?_
      refine tk_get (pc := 112) d_S_load_112 f_S_15 rfl rfl ?_
      refine tk_iload (pc := 115) d_S_load_115 rfl ?_
      refine tk_bipush (pc := 117) (v := 12) d_S_load_117 (by decide) ?_
      refine tk_imul (pc := 119) d_S_load_119 ?_
      refine tk_bipush (pc := 120) (v := 10) d_S_load_120 (by decide) ?_
      refine tk_iadd (pc := 122) d_S_load_122 ?_
      refine tk_iconst (pc := 123) (v := 1) d_S_load_123 (by decide) ?_
      refine tk_iast (pc := 124) (i*12+10) d_S_load_124 rfl (ixma i 12 10) (by omega) (by decide) ?_
      refine tk_aload_n (pc := 125) d_S_load_125 rfl ?_
      refine tk_get (pc := 126) d_S_load_126 f_S_15 rfl rfl ?_
      refine tk_iload (pc := 129) d_S_load_129 rfl ?_
      refine tk_bipush (pc := 131) (v := 12) d_S_load_131 (by decide) ?_
      refine tk_imul (pc := 133) d_S_load_133 ?_
      refine tk_bipush (pc := 134) (v := 11) d_S_load_134 (by decide) ?_
      refine tk_iadd (pc := 136) d_S_load_136 ?_
      refine tk_aload_n (pc := 137) d_S_load_137 rfl ?_
      refine tk_get (pc := 138) d_S_load_138 f_S_47 rfl rfl ?_
      refine tk_iload (pc := 141) d_S_load_141 rfl ?_
      refine tk_iald (pc := 143) i d_S_load_143 rfl rfl (by omega) (by decide) ?_
      refine tk_iast (pc := 144) (i*12+11) d_S_load_144 rfl (ixma i 12 11) (by omega) (by decide) ?_
      refine tk_aload_n (pc := 145) d_S_load_145 rfl ?_
      refine tk_aload_n (pc := 146) d_S_load_146 rfl ?_
      refine tk_aload_n (pc := 147) d_S_load_147 rfl ?_
      refine tk_iload (pc := 148) d_S_load_148 rfl ?_
      refine tk_iload_n (pc := 150) d_S_load_150 rfl ?_
      refine tk_callVr (pc := 151) d_S_load_151 l_S_50 k_S_loadElements rfl rfl rfl (m_elemsP (k := i) (ht := ht) (by omega) hh) rfl (Nat.le_of_ble_eq_true rfl) (Nat.le_of_ble_eq_true rfl) (Nat.le_of_ble_eq_true rfl) (Nat.le_of_ble_eq_true rfl) rfl rfl ?_
      refine tk_jinc4 (pc := 154) d_S_load_154 rfl (by decide) ?_
      refine tk_goto (pc := 157) (tgt := 50) d_S_load_157 (by decide) ?_
      refine tk_eq rfl ?_ rfl ?_ (ih (i + 1) (by omega))
      · rw [inc1]
      · rw [← rmf_s, ← pbf_s]; rfl
  exact tk_eq rfl rfl rfl (by rw [rmf_0, pbf_0]; rfl) (key gn 0 (by omega))
end
section
theorem m_settleC {g : sG} {h : sH} {p : sP} {q : (Nat → Int64) × Int32} {t : tk_W} {sn : Int32} {sr sb f : Ar} {k : Nat} (hk : k < 5) : tk_M y_S_settle w_S_settle 0 0 0 [.ref 24, .int (nI k)] (wd g h p ((sn, sr, sb, f), q) t) (tk_det (.inl none) (wd g h p ((sn, sr, sb, (stl f k 12)), q) t)) := by
  refine tk_M.of (lv := [some (.ref 24), some (.int (nI k)), none, none]) (by decide) (Nat.le_of_ble_eq_true rfl) rfl ?_
  refine tk_iload_n (pc := 0) d_S_settle_0 rfl ?_
  refine tk_bipush (pc := 1) (v := 12) d_S_settle_1 (by decide) ?_
  refine tk_imul (pc := 3) d_S_settle_3 ?_
  refine tk_istore2 (pc := 4) d_S_settle_4 rfl (by decide) ?_
  refine tk_iconst (pc := 5) (v := 0) d_S_settle_5 (by decide) ?_
  refine tk_istore3 (pc := 6) d_S_settle_6 rfl (by decide) ?_
  rw [show nI k * 12 = nI (k * 12) from ixm k 12]
  have key : ∀ (n i : Nat), i + n = 12 → tk_T y_S_settle c_S_settle 4 none [] 0 0 0 (fun _ => none) 0 0 (tk_det (.inl none) (wd g h p ((sn, sr, sb, (stl f k 12)), q) t)) 7 [some (.ref 24), some (.int (nI k)), some (.int (nI (k * 12))), some (.int (nI i))] [] (wd g h p ((sn, sr, sb, (stl f k i)), q) t) := by
    intro n
    induction n with
    | zero =>
      intro i hi
      obtain rfl : i = 12 := by omega
      refine tk_iload_n (pc := 7) d_S_settle_7 rfl ?_
      refine tk_bipush (pc := 8) (v := 12) d_S_settle_8 (by decide) ?_
      refine tk_icmp_ge (pc := 10) (tgt := 38) d_S_settle_10 (by decide) (fun hb => ?_) (fun hb => ?_)
      · exact tk_return (pc := 38) d_S_settle_38 rfl (Nat.le_of_ble_eq_true rfl) (Nat.le_of_ble_eq_true rfl) ⟨rfl, rfl⟩
      · exact absurd (show nI 12 ≤ nI 12 from by decide) hb
    | succ n ih =>
      intro i hi
      refine tk_iload_n (pc := 7) d_S_settle_7 rfl ?_
      refine tk_bipush (pc := 8) (v := 12) d_S_settle_8 (by decide) ?_
      refine tk_icmp_ge (pc := 10) (tgt := 38) d_S_settle_10 (by decide) (fun hb => ?_) (fun hb => ?_)
      · exact absurd ((nI_leI (a := 12) (b := i) (by omega) (by omega)).mp hb) (by omega)
      refine tk_aload_n (pc := 13) d_S_settle_13 rfl ?_
      refine tk_get (pc := 14) d_S_settle_14 f_S_18 rfl rfl ?_
      refine tk_iload_n (pc := 17) d_S_settle_17 rfl ?_
      refine tk_bipush (pc := 18) (v := 12) d_S_settle_18 (by decide) ?_
      refine tk_iadd (pc := 20) d_S_settle_20 ?_
      refine tk_iload_n (pc := 21) d_S_settle_21 rfl ?_
      refine tk_iadd (pc := 22) d_S_settle_22 ?_
      refine tk_aload_n (pc := 23) d_S_settle_23 rfl ?_
      refine tk_get (pc := 24) d_S_settle_24 f_S_18 rfl rfl ?_
      refine tk_iload_n (pc := 27) d_S_settle_27 rfl ?_
      refine tk_iload_n (pc := 28) d_S_settle_28 rfl ?_
      refine tk_iadd (pc := 29) d_S_settle_29 ?_
      refine tk_iald (pc := 30) (k*12+i) d_S_settle_30 rfl (ix2 _ _) (by omega) (by decide) ?_
      refine tk_iast (pc := 31) (k*12+12+i) d_S_settle_31 rfl (ix3 (k * 12) 12 i) (by omega) (by decide) ?_
      refine tk_jinc3 (pc := 32) d_S_settle_32 rfl (by decide) ?_
      refine tk_goto (pc := 35) (tgt := 7) d_S_settle_35 (by decide) ?_
      refine tk_eq rfl ?_ rfl ?_ (ih (i + 1) (by omega))
      · rw [inc1]
      · exact congrArg (fun x => wd g h p ((sn, sr, sb, x), q) t) (stl_s f k i (by omega))
  exact tk_eq rfl rfl rfl (congrArg (fun x => wd g h p ((sn, sr, sb, x), q) t) (stl_0 f k).symm) (key 12 0 rfl)
theorem m_addC {g : sG} {h : sH} {p : sP} {q : (Nat → Int64) × Int32} {t : tk_W} {sn : Int32} {sr sb f : Ar} {k : Nat} (hk : k < 5) : tk_M y_S_addBundle w_S_addBundle 0 0 0 [.ref 24, .int (nI k)] (wd g h p ((sn, sr, sb, f), q) t) (tk_det (.inl none) (wd g h p ((sn, sr, sb, (adb f sb k 12)), q) t)) := by
  refine tk_M.of (lv := [some (.ref 24), some (.int (nI k)), none, none]) (by decide) (Nat.le_of_ble_eq_true rfl) rfl ?_
  refine tk_iload_n (pc := 0) d_S_addBundle_0 rfl ?_
  refine tk_bipush (pc := 1) (v := 12) d_S_addBundle_1 (by decide) ?_
  refine tk_imul (pc := 3) d_S_addBundle_3 ?_
  refine tk_istore2 (pc := 4) d_S_addBundle_4 rfl (by decide) ?_
  refine tk_iconst (pc := 5) (v := 0) d_S_addBundle_5 (by decide) ?_
  refine tk_istore3 (pc := 6) d_S_addBundle_6 rfl (by decide) ?_
  rw [show nI k * 12 = nI (k * 12) from ixm k 12]
  have key : ∀ (n i : Nat), i + n = 12 → tk_T y_S_addBundle c_S_addBundle 4 none [] 0 0 0 (fun _ => none) 0 0 (tk_det (.inl none) (wd g h p ((sn, sr, sb, (adb f sb k 12)), q) t)) 7 [some (.ref 24), some (.int (nI k)), some (.int (nI (k * 12))), some (.int (nI i))] [] (wd g h p ((sn, sr, sb, (adb f sb k i)), q) t) := by
    intro n
    induction n with
    | zero =>
      intro i hi
      obtain rfl : i = 12 := by omega
      refine tk_iload_n (pc := 7) d_S_addBundle_7 rfl ?_
      refine tk_bipush (pc := 8) (v := 12) d_S_addBundle_8 (by decide) ?_
      refine tk_icmp_ge (pc := 10) (tgt := 41) d_S_addBundle_10 (by decide) (fun hb => ?_) (fun hb => ?_)
      · exact tk_return (pc := 41) d_S_addBundle_41 rfl (Nat.le_of_ble_eq_true rfl) (Nat.le_of_ble_eq_true rfl) ⟨rfl, rfl⟩
      · exact absurd (show nI 12 ≤ nI 12 from by decide) hb
    | succ n ih =>
      intro i hi
      refine tk_iload_n (pc := 7) d_S_addBundle_7 rfl ?_
      refine tk_bipush (pc := 8) (v := 12) d_S_addBundle_8 (by decide) ?_
      refine tk_icmp_ge (pc := 10) (tgt := 41) d_S_addBundle_10 (by decide) (fun hb => ?_) (fun hb => ?_)
      · exact absurd ((nI_leI (a := 12) (b := i) (by omega) (by omega)).mp hb) (by omega)
      refine tk_aload_n (pc := 13) d_S_addBundle_13 rfl ?_
      refine tk_get (pc := 14) d_S_addBundle_14 f_S_18 rfl rfl ?_
      refine tk_iload_n (pc := 17) d_S_addBundle_17 rfl ?_
      refine tk_bipush (pc := 18) (v := 12) d_S_addBundle_18 (by decide) ?_
      refine tk_iadd (pc := 20) d_S_addBundle_20 ?_
      refine tk_iload_n (pc := 21) d_S_addBundle_21 rfl ?_
      refine tk_iadd (pc := 22) d_S_addBundle_22 ?_
      refine tk_dup2 (pc := 23) d_S_addBundle_23 rfl rfl ?_
      refine tk_iald (pc := 24) (k*12+12+i) d_S_addBundle_24 rfl (ix3 (k * 12) 12 i) (by omega) (by decide) ?_
      refine tk_aload_n (pc := 25) d_S_addBundle_25 rfl ?_
      refine tk_get (pc := 26) d_S_addBundle_26 f_S_15 rfl rfl ?_
      refine tk_iload_n (pc := 29) d_S_addBundle_29 rfl ?_
      refine tk_iload_n (pc := 30) d_S_addBundle_30 rfl ?_
      refine tk_iadd (pc := 31) d_S_addBundle_31 ?_
      refine tk_iald (pc := 32) (k*12+i) d_S_addBundle_32 rfl (ix2 _ _) (by omega) (by decide) ?_
      refine tk_iadd (pc := 33) d_S_addBundle_33 ?_
      refine tk_iast (pc := 34) (k*12+12+i) d_S_addBundle_34 rfl (ix3 (k * 12) 12 i) (by omega) (by decide) ?_
      refine tk_jinc3 (pc := 35) d_S_addBundle_35 rfl (by decide) ?_
      refine tk_goto (pc := 38) (tgt := 7) d_S_addBundle_38 (by decide) ?_
      refine tk_eq rfl ?_ rfl ?_ (ih (i + 1) (by omega))
      · rw [inc1]
      · exact congrArg (fun x => wd g h p ((sn, sr, sb, x), q) t) (adb_s f sb k i (by omega))
  exact tk_eq rfl rfl rfl (congrArg (fun x => wd g h p ((sn, sr, sb, x), q) t) (adb_0 f sb k).symm) (key 12 0 rfl)
theorem m_centsC {g : sG} {h : sH} {p : sP} {q : (Nat → Int64) × Int32} {t : tk_W} {sn : Int32} {sr sb f : Ar} {k : Nat} (hk : k < 6) : tk_M y_S_cents w_S_cents 0 0 0 [.ref 24, .int (nI k)] (wd g h p ((sn, sr, sb, f), q) t) (tk_det (.inl (some (.int (f (k * 12 + 11))))) (wd g h p ((sn, sr, sb, f), q) t)) := by
  refine tk_M.of (lv := [some (.ref 24), some (.int (nI k))]) (by decide) (Nat.le_of_ble_eq_true rfl) rfl ?_
  refine tk_aload_n (pc := 0) d_S_cents_0 rfl ?_
  refine tk_get (pc := 1) d_S_cents_1 f_S_18 rfl rfl ?_
  refine tk_iload_n (pc := 4) d_S_cents_4 rfl ?_
  refine tk_bipush (pc := 5) (v := 12) d_S_cents_5 (by decide) ?_
  refine tk_imul (pc := 7) d_S_cents_7 ?_
  refine tk_bipush (pc := 8) (v := 11) d_S_cents_8 (by decide) ?_
  refine tk_iadd (pc := 10) d_S_cents_10 ?_
  refine tk_iald (pc := 11) (k*12+11) d_S_cents_11 rfl (ixma k 12 11) (by omega) (by decide) ?_
  exact tk_ireturn (pc := 12) d_S_cents_12 rfl rfl (Nat.le_of_ble_eq_true rfl) (Nat.le_of_ble_eq_true rfl) ⟨rfl, rfl⟩
theorem m_heavyC {g : sG} {h : sH} {p : sP} {q : (Nat → Int64) × Int32} {t : tk_W} {sn : Int32} {sr sb f : Ar} {k : Nat} (hk : k < 6) : tk_M y_S_tooHeavy w_S_tooHeavy 0 0 0 [.ref 24, .int (nI k)] (wd g h p ((sn, sr, sb, f), q) t) (tk_det (.inl (some (.int (if f (k * 12 + 1) ≤ 0 then 0 else 1)))) (wd g h p ((sn, sr, sb, f), q) t)) := by
  refine tk_M.of (lv := [some (.ref 24), some (.int (nI k))]) (by decide) (Nat.le_of_ble_eq_true rfl) rfl ?_
  refine tk_aload_n (pc := 0) d_S_tooHeavy_0 rfl ?_
  refine tk_get (pc := 1) d_S_tooHeavy_1 f_S_18 rfl rfl ?_
  refine tk_iload_n (pc := 4) d_S_tooHeavy_4 rfl ?_
  refine tk_bipush (pc := 5) (v := 12) d_S_tooHeavy_5 (by decide) ?_
  refine tk_imul (pc := 7) d_S_tooHeavy_7 ?_
  refine tk_iconst (pc := 8) (v := 1) d_S_tooHeavy_8 (by decide) ?_
  refine tk_iadd (pc := 9) d_S_tooHeavy_9 ?_
  refine tk_iald (pc := 10) (k*12+1) d_S_tooHeavy_10 rfl (ixma k 12 1) (by omega) (by decide) ?_
  refine tk_if_le (pc := 11) (tgt := 18) d_S_tooHeavy_11 (by decide) (fun hb => ?_) (fun hb => ?_)
  · refine tk_iconst (pc := 18) (v := 0) d_S_tooHeavy_18 (by decide) ?_
    exact tk_ireturn (pc := 19) d_S_tooHeavy_19 rfl rfl (Nat.le_of_ble_eq_true rfl) (Nat.le_of_ble_eq_true rfl) ⟨by rw [if_pos hb], rfl⟩
  · refine tk_iconst (pc := 14) (v := 1) d_S_tooHeavy_14 (by decide) ?_
    refine tk_goto (pc := 15) (tgt := 19) d_S_tooHeavy_15 (by decide) ?_
    exact tk_ireturn (pc := 19) d_S_tooHeavy_19 rfl rfl (Nat.le_of_ble_eq_true rfl) (Nat.le_of_ble_eq_true rfl) ⟨by rw [if_neg hb], rfl⟩
theorem m_brokenC {g : sG} {h : sH} {p : sP} {q : (Nat → Int64) × Int32} {t : tk_W} {n : Nat} {sr sb f : Ar} (hn : n < 6) : tk_M y_S_broken w_S_broken 0 0 0 [.ref 24] (wd g h p (((nI n), sr, sb, f), q) t) (tk_det (.inl (some (.int (brk f (n * 12) 11)))) (wd g h p (((nI n), sr, sb, f), q) t)) := by
  refine tk_M.of (lv := [some (.ref 24), none, none]) (by decide) (Nat.le_of_ble_eq_true rfl) rfl ?_
  refine tk_iconst (pc := 0) (v := 0) d_S_broken_0 (by decide) ?_
  refine tk_istore1 (pc := 1) d_S_broken_1 rfl (by decide) ?_
  refine tk_iconst (pc := 2) (v := 0) d_S_broken_2 (by decide) ?_
  refine tk_istore2 (pc := 3) d_S_broken_3 rfl (by decide) ?_
  have key : ∀ (m i : Nat), i + m = 11 → tk_T y_S_broken c_S_broken 3 (some .int) [] 0 0 0 (fun _ => none) 0 0 (tk_det (.inl (some (.int (brk f (n * 12) 11)))) (wd g h p (((nI n), sr, sb, f), q) t)) 4 [some (.ref 24), some (.int (brk f (n * 12) i)), some (.int (nI i))] [] (wd g h p (((nI n), sr, sb, f), q) t) := by
    intro m
    induction m with
    | zero =>
      intro i hi
      obtain rfl : i = 11 := by omega
      refine tk_iload_n (pc := 4) d_S_broken_4 rfl ?_
      refine tk_bipush (pc := 5) (v := 11) d_S_broken_5 (by decide) ?_
      refine tk_icmp_ge (pc := 7) (tgt := 39) d_S_broken_7 (by decide) (fun hb => ?_) (fun hb => ?_)
      · refine tk_iload_n (pc := 39) d_S_broken_39 rfl ?_
        exact tk_ireturn (pc := 40) d_S_broken_40 rfl rfl (Nat.le_of_ble_eq_true rfl) (Nat.le_of_ble_eq_true rfl) ⟨rfl, rfl⟩
      · exact absurd (show nI 11 ≤ nI 11 from by decide) hb
    | succ m ih =>
      intro i hi
      refine tk_iload_n (pc := 4) d_S_broken_4 rfl ?_
      refine tk_bipush (pc := 5) (v := 11) d_S_broken_5 (by decide) ?_
      refine tk_icmp_ge (pc := 7) (tgt := 39) d_S_broken_7 (by decide) (fun hb => ?_) (fun hb => ?_)
      · exact absurd ((nI_leI (a := 11) (b := i) (by omega) (by omega)).mp hb) (by omega)
      refine tk_aload_n (pc := 10) d_S_broken_10 rfl ?_
      refine tk_get (pc := 11) d_S_broken_11 f_S_18 rfl rfl ?_
      refine tk_aload_n (pc := 14) d_S_broken_14 rfl ?_
      refine tk_get (pc := 15) d_S_broken_15 f_S_27 rfl rfl ?_
      refine tk_bipush (pc := 18) (v := 12) d_S_broken_18 (by decide) ?_
      refine tk_imul (pc := 20) d_S_broken_20 ?_
      refine tk_iload_n (pc := 21) d_S_broken_21 rfl ?_
      refine tk_iadd (pc := 22) d_S_broken_22 ?_
      refine tk_iald (pc := 23) (n*12+i) d_S_broken_23 rfl (ixma n 12 i) (by omega) (by decide) ?_
      refine tk_if_le (pc := 24) (tgt := 33) d_S_broken_24 (by decide) (fun hc => ?_) (fun hc => ?_)
      · refine tk_jinc2 (pc := 33) d_S_broken_33 rfl (by decide) ?_
        refine tk_goto (pc := 36) (tgt := 4) d_S_broken_36 (by decide) ?_
        refine tk_eq rfl ?_ rfl rfl (ih (i + 1) (by omega))
        rw [inc1]
        simp only [brk]
        rw [if_pos hc]
      · refine tk_iload_n (pc := 27) d_S_broken_27 rfl ?_
        refine tk_iconst (pc := 28) (v := 1) d_S_broken_28 (by decide) ?_
        refine tk_iload_n (pc := 29) d_S_broken_29 rfl ?_
        refine tk_ishl (pc := 30) d_S_broken_30 ?_
        refine tk_ior (pc := 31) d_S_broken_31 ?_
        refine tk_istore1 (pc := 32) d_S_broken_32 rfl (by decide) ?_
        refine tk_jinc2 (pc := 33) d_S_broken_33 rfl (by decide) ?_
        refine tk_goto (pc := 36) (tgt := 4) d_S_broken_36 (by decide) ?_
        refine tk_eq rfl ?_ rfl rfl (ih (i + 1) (by omega))
        rw [inc1]
        simp only [brk]
        rw [if_neg hc]
  exact key 11 0 rfl
theorem m_elemsC {g : sG} {h : sH} {p : sP} {q : (Nat → Int64) × Int32} {t : tk_W} {sn : Int32} {sr sb f : Ar} {k ht : Nat} (hk : k < 5) (hh : ht < 4) : tk_M y_S_loadElements w_S_loadElements 0 0 0 [.ref 24, .ref 1, .ref 8, .int (nI k), .int (nI ht)] (wd g h p ((sn, sr, sb, f), q) t) (tk_det (.inl none) (wd g h p ((sn, sr, (lel g h ht k sb 4), f), q) t)) := by
  refine tk_M.of (lv := [some (.ref 24), some (.ref 1), some (.ref 8), some (.int (nI k)), some (.int (nI ht)), none, none, none, none]) (by decide) (Nat.le_of_ble_eq_true rfl) rfl ?_
  refine tk_iconst (pc := 0) (v := 0) d_S_loadElements_0 (by decide) ?_
  refine tk_istore5 (pc := 1) d_S_loadElements_1 rfl (by decide) ?_
  have key : ∀ (m e : Nat), e + m = 4 → ∀ (o6 o7 o8 : Option Value), (tk_p1 o6 = true ∧ tk_p1 o7 = true) → tk_T y_S_loadElements c_S_loadElements 9 none [] 0 0 0 (fun _ => none) 0 0 (tk_det (.inl none) (wd g h p ((sn, sr, (lel g h ht k sb 4), f), q) t)) 3 [some (.ref 24), some (.ref 1), some (.ref 8), some (.int (nI k)), some (.int (nI ht)), some (.int (nI e)), o6, o7, o8] [] (wd g h p ((sn, sr, (lel g h ht k sb e), f), q) t) := by
    intro m
    induction m with
    | zero =>
      intro e he o6 o7 o8 ho
      obtain rfl : e = 4 := by omega
      refine tk_iload (pc := 3) d_S_loadElements_3 rfl ?_
      refine tk_iconst (pc := 5) (v := 4) d_S_loadElements_5 (by decide) ?_
      refine tk_icmp_ge (pc := 6) (tgt := 105) d_S_loadElements_6 (by decide) (fun hb => ?_) (fun hb => ?_)
      · exact tk_return (pc := 105) d_S_loadElements_105 rfl (Nat.le_of_ble_eq_true rfl) (Nat.le_of_ble_eq_true rfl) ⟨rfl, rfl⟩
      · exact absurd (show nI 4 ≤ nI 4 from by decide) hb
    | succ m ih =>
      intro e he o6 o7 o8 ho
      refine tk_iload (pc := 3) d_S_loadElements_3 rfl ?_
      refine tk_iconst (pc := 5) (v := 4) d_S_loadElements_5 (by decide) ?_
      refine tk_icmp_ge (pc := 6) (tgt := 105) d_S_loadElements_6 (by decide) (fun hb => ?_) (fun hb => ?_)
      · exact absurd ((nI_leI (a := 4) (b := e) (by omega) (by omega)).mp hb) (by omega)
      refine tk_iload_n (pc := 9) d_S_loadElements_9 rfl ?_
      refine tk_iconst (pc := 10) (v := 4) d_S_loadElements_10 (by decide) ?_
      refine tk_imul (pc := 11) d_S_loadElements_11 ?_
      refine tk_iload (pc := 12) d_S_loadElements_12 rfl ?_
      refine tk_iadd (pc := 14) d_S_loadElements_14 ?_
      rw [show nI k * 4 + nI e = nI (k * 4 + e) from ixma k 4 e]
      refine tk_istore6 (pc := 15) d_S_loadElements_15 rfl (by decide) ?_
      refine tk_iload (pc := 17) d_S_loadElements_17 rfl ?_
      refine tk_iconst (pc := 19) (v := 4) d_S_loadElements_19 (by decide) ?_
      refine tk_imul (pc := 20) d_S_loadElements_20 ?_
      refine tk_iload (pc := 21) d_S_loadElements_21 rfl ?_
      refine tk_iadd (pc := 23) d_S_loadElements_23 ?_
      rw [show nI ht * 4 + nI e = nI (ht * 4 + e) from ixma ht 4 e]
      refine tk_istore7 (pc := 24) d_S_loadElements_24 rfl (by decide) ?_
      refine tk_iload_n (pc := 26) d_S_loadElements_26 rfl ?_
      refine tk_bipush (pc := 27) (v := 12) d_S_loadElements_27 (by decide) ?_
      refine tk_imul (pc := 29) d_S_loadElements_29 ?_
      refine tk_iconst (pc := 30) (v := 2) d_S_loadElements_30 (by decide) ?_
      refine tk_iadd (pc := 31) d_S_loadElements_31 ?_
      refine tk_iconst (pc := 32) (v := 2) d_S_loadElements_32 (by decide) ?_
      refine tk_iload (pc := 33) d_S_loadElements_33 rfl ?_
      refine tk_imul (pc := 35) d_S_loadElements_35 ?_
      refine tk_iadd (pc := 36) d_S_loadElements_36 ?_
      rw [show nI k * 12 + 2 + 2 * nI e = nI (k * 12 + 2 + 2 * e) from by rw [show nI k * 12 = nI (k * 12) from ixm k 12, show (2 : Int32) * nI e = nI (2 * e) from ixm 2 e, show nI (k * 12) + 2 = nI (k * 12 + 2) from ix2 _ 2, ix2]]
      refine tk_istore8 (pc := 37) d_S_loadElements_37 rfl (by decide) ?_
      refine tk_aload_n (pc := 39) d_S_loadElements_39 rfl ?_
      refine tk_get (pc := 40) d_S_loadElements_40 f_S_15 rfl rfl ?_
      refine tk_iload (pc := 43) d_S_loadElements_43 rfl ?_
      refine tk_aload_n (pc := 45) d_S_loadElements_45 rfl ?_
      refine tk_get (pc := 46) d_S_loadElements_46 f_S_44 rfl rfl ?_
      refine tk_iload_n (pc := 49) d_S_loadElements_49 rfl ?_
      refine tk_iald (pc := 50) k d_S_loadElements_50 rfl rfl hk (by decide) ?_
      refine tk_aload_n (pc := 51) d_S_loadElements_51 rfl ?_
      refine tk_get (pc := 52) d_S_loadElements_52 f_S_54 rfl rfl ?_
      refine tk_iload (pc := 55) d_S_loadElements_55 rfl ?_
      refine tk_iald (pc := 57) (k*4+e) d_S_loadElements_57 rfl rfl (by omega) (by decide) ?_
      refine tk_aload_n (pc := 58) d_S_loadElements_58 rfl ?_
      refine tk_get (pc := 59) d_S_loadElements_59 f_S_57 rfl rfl ?_
      refine tk_iload (pc := 62) d_S_loadElements_62 rfl ?_
      refine tk_iald (pc := 64) (ht*4+e) d_S_loadElements_64 rfl rfl (by omega) (by decide) ?_
      refine tk_isub (pc := 65) d_S_loadElements_65 ?_
      refine tk_imul (pc := 66) d_S_loadElements_66 ?_
      refine tk_iast (pc := 67) (k*12+2+2*e) d_S_loadElements_67 rfl rfl (by omega) (by decide) ?_
      refine tk_aload_n (pc := 68) d_S_loadElements_68 rfl ?_
      refine tk_get (pc := 69) d_S_loadElements_69 f_S_15 rfl rfl ?_
      refine tk_iload (pc := 72) d_S_loadElements_72 rfl ?_
      refine tk_iconst (pc := 74) (v := 1) d_S_loadElements_74 (by decide) ?_
      refine tk_iadd (pc := 75) d_S_loadElements_75 ?_
      refine tk_aload_n (pc := 76) d_S_loadElements_76 rfl ?_
      refine tk_get (pc := 77) d_S_loadElements_77 f_S_44 rfl rfl ?_
      refine tk_iload_n (pc := 80) d_S_loadElements_80 rfl ?_
      refine tk_iald (pc := 81) k d_S_loadElements_81 rfl rfl hk (by decide) ?_
      refine tk_aload_n (pc := 82) d_S_loadElements_82 rfl ?_
      refine tk_get (pc := 83) d_S_loadElements_83 f_S_58 rfl rfl ?_
      refine tk_iload (pc := 86) d_S_loadElements_86 rfl ?_
      refine tk_iald (pc := 88) (ht*4+e) d_S_loadElements_88 rfl rfl (by omega) (by decide) ?_
      refine tk_aload_n (pc := 89) d_S_loadElements_89 rfl ?_
      refine tk_get (pc := 90) d_S_loadElements_90 f_S_61 rfl rfl ?_
      refine tk_iload (pc := 93) d_S_loadElements_93 rfl ?_
      refine tk_iald (pc := 95) (k*4+e) d_S_loadElements_95 rfl rfl (by omega) (by decide) ?_
      refine tk_isub (pc := 96) d_S_loadElements_96 ?_
      refine tk_imul (pc := 97) d_S_loadElements_97 ?_
      refine tk_iast (pc := 98) (k*12+2+2*e+1) d_S_loadElements_98 rfl (ix2 _ 1) (by omega) (by decide) ?_
      refine tk_jinc5 (pc := 99) d_S_loadElements_99 rfl (by decide) ?_
      refine tk_goto (pc := 102) (tgt := 3) d_S_loadElements_102 (by decide) ?_
      refine tk_eq rfl ?_ rfl ?_ (ih (e + 1) (by omega) (some (.int (nI (k * 4 + e)))) (some (.int (nI (ht * 4 + e)))) (some (.int (nI (k * 12 + 2 + 2 * e)))) ⟨rfl, rfl⟩)
      · rw [inc1]
      · exact congrArg (fun x => wd g h p ((sn, sr, x, f), q) t) (lel_s g h ht k sb e (by omega))
  exact tk_eq rfl rfl rfl (congrArg (fun x => wd g h p ((sn, sr, x, f), q) t) (lel_0 g h ht k sb).symm) (key 4 0 rfl none none none ⟨rfl, rfl⟩)
theorem m_loadC {gn : Nat} {gt : Ar × Ar × Ar × Ar × Ar × Ar} {h : sH} {p : sP} {q : (Nat → Int64) × Int32} {t : tk_W} {sn : Int32} {sr sb f : Ar} {ht : Nat} (hg : gn < 6) (hh : ht < 4) : tk_M y_S_load w_S_load 1 0 0 [.ref 24, .ref 1, .ref 8, .int (nI ht)] (wd (nI gn, gt) h p ((sn, sr, sb, f), q) t) (tk_det (.inl none) (wd (nI gn, gt) h p (((nI gn), (rmf (nI gn, gt) sr gn), (pbf (nI gn, gt) h ht sb gn), (ldR f h ht)), q) t)) := by
  refine tk_M.of (lv := [some (.ref 24), some (.ref 1), some (.ref 8), some (.int (nI ht)), none]) (by decide) (Nat.le_of_ble_eq_true rfl) rfl ?_
  refine tk_aload_n (pc := 0) d_S_load_0 rfl ?_
  refine tk_aload_n (pc := 1) d_S_load_1 rfl ?_
  refine tk_get (pc := 2) d_S_load_2 f_S_21 rfl rfl ?_
  refine tk_put (pc := 5) d_S_load_5 f_S_27 p_S_0 rfl rfl rfl (Nat.le_of_ble_eq_true rfl) rfl ?_
  refine tk_aload_n (pc := 8) d_S_load_8 rfl ?_
  refine tk_get (pc := 9) d_S_load_9 f_S_18 rfl rfl ?_
  refine tk_iconst (pc := 12) (v := 0) d_S_load_12 (by decide) ?_
  refine tk_aload_n (pc := 13) d_S_load_13 rfl ?_
  refine tk_get (pc := 14) d_S_load_14 f_S_30 rfl rfl ?_
  refine tk_iload_n (pc := 17) d_S_load_17 rfl ?_
  refine tk_iald (pc := 18) ht d_S_load_18 rfl rfl hh (by decide) ?_
  refine tk_iast (pc := 19) 0 d_S_load_19 rfl rfl (by omega) (by decide) ?_
  refine tk_aload_n (pc := 20) d_S_load_20 rfl ?_
  refine tk_get (pc := 21) d_S_load_21 f_S_18 rfl rfl ?_
  refine tk_iconst (pc := 24) (v := 1) d_S_load_24 (by decide) ?_
  refine tk_aload_n (pc := 25) d_S_load_25 rfl ?_
  refine tk_get (pc := 26) d_S_load_26 f_S_35 rfl rfl ?_
  refine tk_iload_n (pc := 29) d_S_load_29 rfl ?_
  refine tk_iald (pc := 30) ht d_S_load_30 rfl rfl hh (by decide) ?_
  refine tk_ineg (pc := 31) d_S_load_31 ?_
  refine tk_iast (pc := 32) 1 d_S_load_32 rfl rfl (by omega) (by decide) ?_
  refine tk_aload_n (pc := 33) d_S_load_33 rfl ?_
  refine tk_get (pc := 34) d_S_load_34 f_S_18 rfl rfl ?_
  refine tk_bipush (pc := 37) (v := 10) d_S_load_37 (by decide) ?_
  refine tk_aload_n (pc := 39) d_S_load_39 rfl ?_
  refine tk_get (pc := 40) d_S_load_40 f_S_38 rfl rfl ?_
  refine tk_iload_n (pc := 43) d_S_load_43 rfl ?_
  refine tk_iald (pc := 44) ht d_S_load_44 rfl rfl hh (by decide) ?_
  refine tk_ineg (pc := 45) d_S_load_45 ?_
  refine tk_iast (pc := 46) 10 d_S_load_46 rfl rfl (by omega) (by decide) ?_
  refine tk_iconst (pc := 47) (v := 0) d_S_load_47 (by decide) ?_
  refine tk_istore4 (pc := 48) d_S_load_48 rfl (by decide) ?_
  have key : ∀ (m i : Nat), i + m = gn → tk_T y_S_load c_S_load 5 none [] 1 0 0 (fun _ => none) 0 0 (tk_det (.inl none) (wd (nI gn, gt) h p (((nI gn), (rmf (nI gn, gt) sr gn), (pbf (nI gn, gt) h ht sb gn), (ldR f h ht)), q) t)) 50 [some (.ref 24), some (.ref 1), some (.ref 8), some (.int (nI ht)), some (.int (nI i))] [] (wd (nI gn, gt) h p (((nI gn), (rmf (nI gn, gt) sr i), (pbf (nI gn, gt) h ht sb i), (ldR f h ht)), q) t) := by
    intro m
    induction m with
    | zero =>
      intro i hi
      obtain rfl : i = gn := by omega
      refine tk_iload (pc := 50) d_S_load_50 rfl ?_
      refine tk_aload_n (pc := 52) d_S_load_52 rfl ?_
      refine tk_get (pc := 53) d_S_load_53 f_S_27 rfl rfl ?_
      refine tk_icmp_ge (pc := 56) (tgt := 160) d_S_load_56 (by decide) (fun hb => ?_) (fun hb => ?_)
      · exact tk_return (pc := 160) d_S_load_160 rfl (Nat.le_of_ble_eq_true rfl) (Nat.le_of_ble_eq_true rfl) ⟨rfl, rfl⟩
      · exact absurd ((nI_leI (a := i) (b := i) (by omega) (by omega)).mpr (Nat.le_refl _)) hb
    | succ m ih =>
      intro i hi
      refine tk_iload (pc := 50) d_S_load_50 rfl ?_
      refine tk_aload_n (pc := 52) d_S_load_52 rfl ?_
      refine tk_get (pc := 53) d_S_load_53 f_S_27 rfl rfl ?_
      refine tk_icmp_ge (pc := 56) (tgt := 160) d_S_load_56 (by decide) (fun hb => ?_) (fun hb => ?_)
      · exact absurd ((nI_leI (a := gn) (b := i) (by omega) (by omega)).mp hb) (by omega)
      refine tk_aload_n (pc := 59) d_S_load_59 rfl ?_
      refine tk_get (pc := 60) d_S_load_60 f_S_9 rfl rfl ?_
      refine tk_iload (pc := 63) d_S_load_63 rfl ?_
      refine tk_aload_n (pc := 65) d_S_load_65 rfl ?_
      refine tk_iload (pc := 66) d_S_load_66 rfl ?_
      refine tk_callVr (pc := 68) d_S_load_68 l_S_41 k_G_room rfl rfl rfl (m_G_room (k := i) (by omega)) rfl (Nat.le_of_ble_eq_true rfl) (Nat.le_of_ble_eq_true rfl) (Nat.le_of_ble_eq_true rfl) (Nat.le_of_ble_eq_true rfl) rfl rfl ?_
      refine tk_iast (pc := 71) i d_S_load_71 rfl rfl (by omega) (by decide) ?_
      refine tk_aload_n (pc := 72) d_S_load_72 rfl ?_
      refine tk_get (pc := 73) d_S_load_73 f_S_15 rfl rfl ?_
      refine tk_iload (pc := 76) d_S_load_76 rfl ?_
      refine tk_bipush (pc := 78) (v := 12) d_S_load_78 (by decide) ?_
      refine tk_imul (pc := 80) d_S_load_80 ?_
      refine tk_iconst (pc := 81) (v := 0) d_S_load_81 (by decide) ?_
      refine tk_iadd (pc := 82) d_S_load_82 ?_
      refine tk_aload_n (pc := 83) d_S_load_83 rfl ?_
      refine tk_get (pc := 84) d_S_load_84 f_S_44 rfl rfl ?_
      refine tk_iload (pc := 87) d_S_load_87 rfl ?_
      refine tk_iald (pc := 89) i d_S_load_89 rfl rfl (by omega) (by decide) ?_
      refine tk_ineg (pc := 90) d_S_load_90 ?_
      refine tk_iast (pc := 91) (i*12+0) d_S_load_91 rfl (ixma i 12 0) (by omega) (by decide) ?_
      refine tk_aload_n (pc := 92) d_S_load_92 rfl ?_
      refine tk_get (pc := 93) d_S_load_93 f_S_15 rfl rfl ?_
      refine tk_iload (pc := 96) d_S_load_96 rfl ?_
      refine tk_bipush (pc := 98) (v := 12) d_S_load_98 (by decide) ?_
      refine tk_imul (pc := 100) d_S_load_100 ?_
      refine tk_iconst (pc := 101) (v := 1) d_S_load_101 (by decide) ?_
      refine tk_iadd (pc := 102) d_S_load_102 ?_
      refine tk_aload_n (pc := 103) d_S_load_103 rfl ?_
      refine tk_get (pc := 104) d_S_load_104 f_S_44 rfl rfl ?_
      refine tk_iload (pc := 107) d_S_load_107 rfl ?_
      refine tk_iald (pc := 109) i d_S_load_109 rfl rfl (by omega) (by decide) ?_
      refine tk_iast (pc := 110) (i*12+1) d_S_load_110 rfl (ixma i 12 1) (by omega) (by decide) ?_
      refine tk_aload_n (pc := 111) d_S_load_111 rfl ?_
      refine tk_get (pc := 112) d_S_load_112 f_S_15 rfl rfl ?_
      refine tk_iload (pc := 115) d_S_load_115 rfl ?_
      refine tk_bipush (pc := 117) (v := 12) d_S_load_117 (by decide) ?_
      refine tk_imul (pc := 119) d_S_load_119 ?_
      refine tk_bipush (pc := 120) (v := 10) d_S_load_120 (by decide) ?_
      refine tk_iadd (pc := 122) d_S_load_122 ?_
      refine tk_iconst (pc := 123) (v := 1) d_S_load_123 (by decide) ?_
      refine tk_iast (pc := 124) (i*12+10) d_S_load_124 rfl (ixma i 12 10) (by omega) (by decide) ?_
      refine tk_aload_n (pc := 125) d_S_load_125 rfl ?_
      refine tk_get (pc := 126) d_S_load_126 f_S_15 rfl rfl ?_
      refine tk_iload (pc := 129) d_S_load_129 rfl ?_
      refine tk_bipush (pc := 131) (v := 12) d_S_load_131 (by decide) ?_
      refine tk_imul (pc := 133) d_S_load_133 ?_
      refine tk_bipush (pc := 134) (v := 11) d_S_load_134 (by decide) ?_
      refine tk_iadd (pc := 136) d_S_load_136 ?_
      refine tk_aload_n (pc := 137) d_S_load_137 rfl ?_
      refine tk_get (pc := 138) d_S_load_138 f_S_47 rfl rfl ?_
      refine tk_iload (pc := 141) d_S_load_141 rfl ?_
      refine tk_iald (pc := 143) i d_S_load_143 rfl rfl (by omega) (by decide) ?_
      refine tk_iast (pc := 144) (i*12+11) d_S_load_144 rfl (ixma i 12 11) (by omega) (by decide) ?_
      refine tk_aload_n (pc := 145) d_S_load_145 rfl ?_
      refine tk_aload_n (pc := 146) d_S_load_146 rfl ?_
      refine tk_aload_n (pc := 147) d_S_load_147 rfl ?_
      refine tk_iload (pc := 148) d_S_load_148 rfl ?_
      refine tk_iload_n (pc := 150) d_S_load_150 rfl ?_
      refine tk_callVr (pc := 151) d_S_load_151 l_S_50 k_S_loadElements rfl rfl rfl (m_elemsC (k := i) (ht := ht) (by omega) hh) rfl (Nat.le_of_ble_eq_true rfl) (Nat.le_of_ble_eq_true rfl) (Nat.le_of_ble_eq_true rfl) (Nat.le_of_ble_eq_true rfl) rfl rfl ?_
      refine tk_jinc4 (pc := 154) d_S_load_154 rfl (by decide) ?_
      refine tk_goto (pc := 157) (tgt := 50) d_S_load_157 (by decide) ?_
      refine tk_eq rfl ?_ rfl ?_ (ih (i + 1) (by omega))
      · rw [inc1]
      · rw [← rmf_s, ← pbf_s]; rfl
  exact tk_eq rfl rfl rfl (by rw [rmf_0, pbf_0]; rfl) (key gn 0 (by omega))
end
section
/-! ===== Heats ===== -/
def fil (a : Ar) (b i : Nat) (v : Int32) : Ar := fun j => if b ≤ j ∧ j < b + i then v else a j
theorem fil_0 (a : Ar) (b : Nat) (v : Int32) : fil a b 0 v = a := by
  funext j; simp only [fil]; rw [if_neg (by omega)]
theorem fil_s (a : Ar) (b i : Nat) (v : Int32) : upd (fil a b i v) (b + i) v = fil a b (i + 1) v := by
  funext j
  simp only [upd, fil]
  by_cases h1 : j = b + i
  · subst h1; rw [if_pos rfl, if_pos (by omega)]
  · rw [if_neg h1]
    by_cases h2 : b ≤ j ∧ j < b + i
    · rw [if_pos h2, if_pos (by omega)]
    · rw [if_neg h2, if_neg (by omega)]
/-- i places of a from b on are those of c from 0 on -/
def cpf (a c : Ar) (b i : Nat) : Ar := fun j => if b ≤ j ∧ j < b + i then c (j - b) else a j
theorem cpf_0 (a c : Ar) (b : Nat) : cpf a c b 0 = a := by
  funext j; simp only [cpf]; rw [if_neg (by omega)]
theorem cpf_s (a c : Ar) (b i : Nat) : upd (cpf a c b i) (b + i) (c i) = cpf a c b (i + 1) := by
  funext j
  simp only [upd, cpf]
  by_cases h1 : j = b + i
  · subst h1; rw [if_pos rfl, if_pos (by omega), show b + i - b = i by omega]
  · rw [if_neg h1]
    by_cases h2 : b ≤ j ∧ j < b + i
    · rw [if_pos h2, if_pos (by omega)]
    · rw [if_neg h2, if_neg (by omega)]
theorem m_H_append {g : sG} {p : sP} {c : sC} {t : tk_W} {lo hi ls hs mb pc bd : Ar} {n : Nat} {a b : Int32} (hn : n < 4) : tk_M y_H_append w_H_append 0 0 0 [.ref 8, .int a, .int b] (wd g (nI n, lo, hi, ls, hs, mb, pc, bd) p c t) (tk_det (.inl (some (.int (nI n)))) (wd g (nI (n + 1), upd lo n a, upd hi n b, ls, fil hs (n * 4) 4 10000, upd mb n 30, upd pc n (-1), bd) p c t)) := by
  refine tk_M.of (lv := [some (.ref 8), some (.int a), some (.int b), none, none]) (by decide) (Nat.le_of_ble_eq_true rfl) rfl ?_
  refine tk_aload_n (pc := 0) d_H_append_0 rfl ?_
  refine tk_get (pc := 1) d_H_append_1 f_H_33 rfl rfl ?_
  refine tk_istore3 (pc := 4) d_H_append_4 rfl (by decide) ?_
  refine tk_aload_n (pc := 5) d_H_append_5 rfl ?_
  refine tk_get (pc := 6) d_H_append_6 f_H_9 rfl rfl ?_
  refine tk_iload_n (pc := 9) d_H_append_9 rfl ?_
  refine tk_iload_n (pc := 10) d_H_append_10 rfl ?_
  refine tk_iast (pc := 11) n d_H_append_11 rfl rfl hn (by decide) ?_
  refine tk_aload_n (pc := 12) d_H_append_12 rfl ?_
  refine tk_get (pc := 13) d_H_append_13 f_H_15 rfl rfl ?_
  refine tk_iload_n (pc := 16) d_H_append_16 rfl ?_
  refine tk_iload_n (pc := 17) d_H_append_17 rfl ?_
  refine tk_iast (pc := 18) n d_H_append_18 rfl rfl hn (by decide) ?_
  refine tk_iconst (pc := 19) (v := 0) d_H_append_19 (by decide) ?_
  refine tk_istore4 (pc := 20) d_H_append_20 rfl (by decide) ?_
  have key : ∀ (m i : Nat), i + m = 4 → tk_T y_H_append c_H_append 5 (some .int) [] 0 0 0 (fun _ => none) 0 0 (tk_det (.inl (some (.int (nI n)))) (wd g (nI (n + 1), upd lo n a, upd hi n b, ls, fil hs (n * 4) 4 10000, upd mb n 30, upd pc n (-1), bd) p c t)) 22 [some (.ref 8), some (.int a), some (.int b), some (.int (nI n)), some (.int (nI i))] [] (wd g (nI n, upd lo n a, upd hi n b, ls, fil hs (n * 4) i 10000, mb, pc, bd) p c t) := by
    intro m
    induction m with
    | zero =>
      intro i hi'
      obtain rfl : i = 4 := by omega
      refine tk_iload (pc := 22) d_H_append_22 rfl ?_
      refine tk_iconst (pc := 24) (v := 4) d_H_append_24 (by decide) ?_
      refine tk_icmp_ge (pc := 25) (tgt := 48) d_H_append_25 (by decide) (fun hb => ?_) (fun hb => ?_)
      · refine tk_aload_n (pc := 48) d_H_append_48 rfl ?_
        refine tk_get (pc := 49) d_H_append_49 f_H_24 rfl rfl ?_
        refine tk_iload_n (pc := 52) d_H_append_52 rfl ?_
        refine tk_bipush (pc := 53) (v := 30) d_H_append_53 (by decide) ?_
        refine tk_iast (pc := 55) n d_H_append_55 rfl rfl hn (by decide) ?_
        refine tk_aload_n (pc := 56) d_H_append_56 rfl ?_
        refine tk_get (pc := 57) d_H_append_57 f_H_27 rfl rfl ?_
        refine tk_iload_n (pc := 60) d_H_append_60 rfl ?_
        refine tk_iconst (pc := 61) (v := -1) d_H_append_61 (by decide) ?_
        refine tk_iast (pc := 62) n d_H_append_62 rfl rfl hn (by decide) ?_
        refine tk_aload_n (pc := 63) d_H_append_63 rfl ?_
        refine tk_dup (pc := 64) d_H_append_64 rfl ?_
        refine tk_get (pc := 65) d_H_append_65 f_H_33 rfl rfl ?_
        refine tk_iconst (pc := 68) (v := 1) d_H_append_68 (by decide) ?_
        refine tk_iadd (pc := 69) d_H_append_69 ?_
        refine tk_put (pc := 70) d_H_append_70 f_H_33 p_H_0 rfl rfl rfl (Nat.le_of_ble_eq_true rfl) rfl ?_
        refine tk_iload_n (pc := 73) d_H_append_73 rfl ?_
        exact tk_ireturn (pc := 74) d_H_append_74 rfl rfl (Nat.le_of_ble_eq_true rfl) (Nat.le_of_ble_eq_true rfl) ⟨rfl, by rw [← nI_1]; rfl⟩
      · exact absurd (show nI 4 ≤ nI 4 from by decide) hb
    | succ m ih =>
      intro i hi'
      refine tk_iload (pc := 22) d_H_append_22 rfl ?_
      refine tk_iconst (pc := 24) (v := 4) d_H_append_24 (by decide) ?_
      refine tk_icmp_ge (pc := 25) (tgt := 48) d_H_append_25 (by decide) (fun hb => ?_) (fun hb => ?_)
      · exact absurd ((nI_leI (a := 4) (b := i) (by omega) (by omega)).mp hb) (by omega)
      refine tk_aload_n (pc := 28) d_H_append_28 rfl ?_
      refine tk_get (pc := 29) d_H_append_29 f_H_21 rfl rfl ?_
      refine tk_iload_n (pc := 32) d_H_append_32 rfl ?_
      refine tk_iconst (pc := 33) (v := 4) d_H_append_33 (by decide) ?_
      refine tk_imul (pc := 34) d_H_append_34 ?_
      refine tk_iload (pc := 35) d_H_append_35 rfl ?_
      refine tk_iadd (pc := 37) d_H_append_37 ?_
      refine tk_sipush (pc := 38) (v := 10000) d_H_append_38 (by decide) ?_
      refine tk_iast (pc := 41) (n*4+i) d_H_append_41 rfl (ixma n 4 i) (by omega) (by decide) ?_
      refine tk_jinc4 (pc := 42) d_H_append_42 rfl (by decide) ?_
      refine tk_goto (pc := 45) (tgt := 22) d_H_append_45 (by decide) ?_
      refine tk_eq rfl ?_ rfl ?_ (ih (i + 1) (by omega))
      · rw [inc1]
      · rw [← fil_s]; rfl
  exact tk_eq rfl rfl rfl (by rw [fil_0]; rfl) (key 4 0 rfl)
theorem m_H_hasPlan {g : sG} {h : sH} {p : sP} {c : sC} {t : tk_W} {k : Nat} (hk : k < 4) : tk_M y_H_hasPlan w_H_hasPlan 0 0 0 [.ref 8, .int (nI k)] (wd g h p c t) (tk_det (.inl (some (.int (if h.2.2.2.2.2.2.1 k = -1 then 0 else 1)))) (wd g h p c t)) := by
  refine tk_M.of (lv := [some (.ref 8), some (.int (nI k))]) (by decide) (Nat.le_of_ble_eq_true rfl) rfl ?_
  refine tk_aload_n (pc := 0) d_H_hasPlan_0 rfl ?_
  refine tk_get (pc := 1) d_H_hasPlan_1 f_H_27 rfl rfl ?_
  refine tk_iload_n (pc := 4) d_H_hasPlan_4 rfl ?_
  refine tk_iald (pc := 5) k d_H_hasPlan_5 rfl rfl hk (by decide) ?_
  refine tk_iconst (pc := 6) (v := -1) d_H_hasPlan_6 (by decide) ?_
  refine tk_icmp_eq (pc := 7) (tgt := 14) d_H_hasPlan_7 (by decide) (fun hb => ?_) (fun hb => ?_)
  · refine tk_iconst (pc := 14) (v := 0) d_H_hasPlan_14 (by decide) ?_
    exact tk_ireturn (pc := 15) d_H_hasPlan_15 rfl rfl (Nat.le_of_ble_eq_true rfl) (Nat.le_of_ble_eq_true rfl) ⟨by rw [if_pos hb], rfl⟩
  · refine tk_iconst (pc := 10) (v := 1) d_H_hasPlan_10 (by decide) ?_
    refine tk_goto (pc := 11) (tgt := 15) d_H_hasPlan_11 (by decide) ?_
    exact tk_ireturn (pc := 15) d_H_hasPlan_15 rfl rfl (Nat.le_of_ble_eq_true rfl) (Nat.le_of_ble_eq_true rfl) ⟨by rw [if_neg hb], rfl⟩
theorem m_H_keepPlan {g : sG} {hn : Int32} {lo hi ls hs mb pc bd : Ar} {s : sS} {ch be : Ar} {q : Int32 × Int32 × Int32 × Int32 × Int32} {c : sC} {t : tk_W} {k : Nat} {v : Int32} (hk : k < 4) : tk_M y_H_keepPlan w_H_keepPlan 0 0 0 [.ref 8, .int (nI k), .ref 22, .int v] (wd g (hn, lo, hi, ls, hs, mb, pc, bd) (s, ch, be, q) c t) (tk_det (.inl none) (wd g (hn, lo, hi, ls, hs, mb, upd pc k v, cpf bd be (k * 5) 5) (s, ch, be, q) c t)) := by
  refine tk_M.of (lv := [some (.ref 8), some (.int (nI k)), some (.ref 22), some (.int v), none]) (by decide) (Nat.le_of_ble_eq_true rfl) rfl ?_
  refine tk_aload_n (pc := 0) d_H_keepPlan_0 rfl ?_
  refine tk_get (pc := 1) d_H_keepPlan_1 f_H_27 rfl rfl ?_
  refine tk_iload_n (pc := 4) d_H_keepPlan_4 rfl ?_
  refine tk_iload_n (pc := 5) d_H_keepPlan_5 rfl ?_
  refine tk_iast (pc := 6) k d_H_keepPlan_6 rfl rfl hk (by decide) ?_
  refine tk_iconst (pc := 7) (v := 0) d_H_keepPlan_7 (by decide) ?_
  refine tk_istore4 (pc := 8) d_H_keepPlan_8 rfl (by decide) ?_
  have key : ∀ (m i : Nat), i + m = 5 → tk_T y_H_keepPlan c_H_keepPlan 5 none [] 0 0 0 (fun _ => none) 0 0 (tk_det (.inl none) (wd g (hn, lo, hi, ls, hs, mb, upd pc k v, cpf bd be (k * 5) 5) (s, ch, be, q) c t)) 10 [some (.ref 8), some (.int (nI k)), some (.ref 22), some (.int v), some (.int (nI i))] [] (wd g (hn, lo, hi, ls, hs, mb, upd pc k v, cpf bd be (k * 5) i) (s, ch, be, q) c t) := by
    intro m
    induction m with
    | zero =>
      intro i hi'
      obtain rfl : i = 5 := by omega
      refine tk_iload (pc := 10) d_H_keepPlan_10 rfl ?_
      refine tk_iconst (pc := 12) (v := 5) d_H_keepPlan_12 (by decide) ?_
      refine tk_icmp_ge (pc := 13) (tgt := 37) d_H_keepPlan_13 (by decide) (fun hb => ?_) (fun hb => ?_)
      · exact tk_return (pc := 37) d_H_keepPlan_37 rfl (Nat.le_of_ble_eq_true rfl) (Nat.le_of_ble_eq_true rfl) ⟨rfl, rfl⟩
      · exact absurd (show nI 5 ≤ nI 5 from by decide) hb
    | succ m ih =>
      intro i hi'
      refine tk_iload (pc := 10) d_H_keepPlan_10 rfl ?_
      refine tk_iconst (pc := 12) (v := 5) d_H_keepPlan_12 (by decide) ?_
      refine tk_icmp_ge (pc := 13) (tgt := 37) d_H_keepPlan_13 (by decide) (fun hb => ?_) (fun hb => ?_)
      · exact absurd ((nI_leI (a := 5) (b := i) (by omega) (by omega)).mp hb) (by omega)
      refine tk_aload_n (pc := 16) d_H_keepPlan_16 rfl ?_
      refine tk_get (pc := 17) d_H_keepPlan_17 f_H_30 rfl rfl ?_
      refine tk_iload_n (pc := 20) d_H_keepPlan_20 rfl ?_
      refine tk_iconst (pc := 21) (v := 5) d_H_keepPlan_21 (by decide) ?_
      refine tk_imul (pc := 22) d_H_keepPlan_22 ?_
      refine tk_iload (pc := 23) d_H_keepPlan_23 rfl ?_
      refine tk_iadd (pc := 25) d_H_keepPlan_25 ?_
      refine tk_aload_n (pc := 26) d_H_keepPlan_26 rfl ?_
      refine tk_iload (pc := 27) d_H_keepPlan_27 rfl ?_
      refine tk_iald (pc := 29) i d_H_keepPlan_29 rfl rfl (by omega) (by decide) ?_
      refine tk_iast (pc := 30) (k*5+i) d_H_keepPlan_30 rfl (ixma k 5 i) (by omega) (by decide) ?_
      refine tk_jinc4 (pc := 31) d_H_keepPlan_31 rfl (by decide) ?_
      refine tk_goto (pc := 34) (tgt := 10) d_H_keepPlan_34 (by decide) ?_
      refine tk_eq rfl ?_ rfl ?_ (ih (i + 1) (by omega))
      · rw [inc1]
      · rw [← cpf_s]; rfl
  exact tk_eq rfl rfl rfl (by rw [cpf_0]; rfl) (key 5 0 rfl)
end
section
/-! ===== Planning ===== -/
theorem tk_ww {y : MethodName} {cc : ByteArray} {nL : Nat} {rt : Option FieldType} {hh : List (Nat × Nat × Nat × Nat)} {d kc ks : Nat} {ro : Nat → Option (Nat × (Nat → Int32))} {cells slots : Nat} {Q : tk_R → tk_W → Prop} {pc : Nat} {lv : List (Option Value)} {st : List Value} {w : tk_W} (w' : tk_W) (hw : w = w') (k : tk_T y cc nL rt hh d kc ks ro cells slots Q pc lv st w') : tk_T y cc nL rt hh d kc ks ro cells slots Q pc lv st w := hw ▸ k
/-- rows, charge, best, bestCents, steps, spent -/
abbrev sT : Type := Ar × Ar × Ar × Int32 × Int32 × Int32
def gvu (f : Ar) (bc : Int32) (k : Nat) : Int32 := if f (k * 12 + 1) ≤ 0 then (if bc = -1 then 0 else if f (k * 12 + 11) < bc then 0 else 1) else 1
def kih (G : Nat) (x : sT) : sT := if brk x.1 (G * 12) 11 = 0 then (x.1, x.2.1, cpf x.2.2.1 x.2.1 0 5, x.1 (G * 12 + 11), x.2.2.2.2.1, x.2.2.2.2.2) else x
/-- one number v of good k is tried, before what comes behind it -/
def try1 (sb : Ar) (k v : Nat) (x : sT) : sT := (if v = 0 then x.1 else adb x.1 sb k 12, upd x.2.1 k (nI v), x.2.2.1, x.2.2.2.1, x.2.2.2.2.1 + 1, x.2.2.2.2.2)
def tryL (rec : sT → sT) (sb : Ar) (al : Int32) (k : Nat) : Nat → Nat → sT → sT
  | 0, _, x => x
  | r + 1, v, x => if x.2.2.2.2.1 < al then tryL rec sb al k r (v + 1) (if gvu (try1 sb k v x).1 (try1 sb k v x).2.2.2.1 (k + 1) = 0 then rec (try1 sb k v x) else try1 sb k v x)
      else (x.1, x.2.1, x.2.2.1, x.2.2.2.1, x.2.2.2.2.1, 1)
def tryF (G : Nat) (R : Nat → Nat) (sb : Ar) (al : Int32) : Nat → Nat → sT → sT
  | 0, _, x => kih G x
  | m + 1, k, x => tryL (tryF G R sb al m (k + 1)) sb al k (R k + 1) 0 (stl x.1 k 12, x.2)
/-- the world where planning stands at x -/
abbrev wP (g : sG) (h : sH) (G : Nat) (rm sb : Ar) (al dn : Int32) (c : sC) (t : tk_W) (x : sT) : tk_W := wd g h ((nI G, rm, sb, x.1), x.2.1, x.2.2.1, x.2.2.2.1, al, x.2.2.2.2.1, x.2.2.2.2.2, dn) c t
theorem m_givenUp {g : sG} {h : sH} {G : Nat} {rm sb : Ar} {al dn : Int32} {c : sC} {t : tk_W} {x : sT} {k : Nat} (hk : k < 6) : tk_M y_P_givenUp w_P_givenUp 1 0 0 [.ref 16, .int (nI k)] (wP g h G rm sb al dn c t x) (tk_det (.inl (some (.int (gvu x.1 x.2.2.2.1 k)))) (wP g h G rm sb al dn c t x)) := by
  refine tk_M.of (lv := [some (.ref 16), some (.int (nI k))]) (by decide) (Nat.le_of_ble_eq_true rfl) rfl ?_
  refine tk_aload_n (pc := 0) d_P_givenUp_0 rfl ?_
  refine tk_get (pc := 1) d_P_givenUp_1 f_P_12 rfl rfl ?_
  refine tk_iload_n (pc := 4) d_P_givenUp_4 rfl ?_
  refine tk_callVr (pc := 5) d_P_givenUp_5 l_P_69 k_S_tooHeavy rfl rfl rfl (m_heavyP (f := x.1) (k := k) hk) rfl (by omega) (Nat.le_of_ble_eq_true rfl) (Nat.le_of_ble_eq_true rfl) (Nat.le_of_ble_eq_true rfl) rfl rfl ?_
  by_cases h1 : x.1 (k * 12 + 1) ≤ 0
  · rw [if_pos h1]
    refine tk_if_ne (pc := 8) (tgt := 34) d_P_givenUp_8 (by decide) (fun hb => ?_) (fun hb => ?_)
    · exact absurd rfl hb
    refine tk_aload_n (pc := 11) d_P_givenUp_11 rfl ?_
    refine tk_get (pc := 12) d_P_givenUp_12 f_P_29 rfl rfl ?_
    refine tk_iconst (pc := 15) (v := -1) d_P_givenUp_15 (by decide) ?_
    refine tk_icmp_eq (pc := 16) (tgt := 38) d_P_givenUp_16 (by decide) (fun hc => ?_) (fun hc => ?_)
    · refine tk_iconst (pc := 38) (v := 0) d_P_givenUp_38 (by decide) ?_
      exact tk_ireturn (pc := 39) d_P_givenUp_39 rfl rfl (Nat.le_of_ble_eq_true rfl) (Nat.le_of_ble_eq_true rfl) ⟨by simp only [gvu]; rw [if_pos h1, if_pos hc], rfl⟩
    refine tk_aload_n (pc := 19) d_P_givenUp_19 rfl ?_
    refine tk_get (pc := 20) d_P_givenUp_20 f_P_12 rfl rfl ?_
    refine tk_iload_n (pc := 23) d_P_givenUp_23 rfl ?_
    refine tk_callVr (pc := 24) d_P_givenUp_24 l_P_72 k_S_cents rfl rfl rfl (m_centsP (f := x.1) (k := k) hk) rfl (by omega) (Nat.le_of_ble_eq_true rfl) (Nat.le_of_ble_eq_true rfl) (Nat.le_of_ble_eq_true rfl) rfl rfl ?_
    refine tk_aload_n (pc := 27) d_P_givenUp_27 rfl ?_
    refine tk_get (pc := 28) d_P_givenUp_28 f_P_29 rfl rfl ?_
    refine tk_icmp_lt (pc := 31) (tgt := 38) d_P_givenUp_31 (by decide) (fun he => ?_) (fun he => ?_)
    · refine tk_iconst (pc := 38) (v := 0) d_P_givenUp_38 (by decide) ?_
      exact tk_ireturn (pc := 39) d_P_givenUp_39 rfl rfl (Nat.le_of_ble_eq_true rfl) (Nat.le_of_ble_eq_true rfl) ⟨by simp only [gvu]; rw [if_pos h1, if_neg hc, if_pos he], rfl⟩
    · refine tk_iconst (pc := 34) (v := 1) d_P_givenUp_34 (by decide) ?_
      refine tk_goto (pc := 35) (tgt := 39) d_P_givenUp_35 (by decide) ?_
      exact tk_ireturn (pc := 39) d_P_givenUp_39 rfl rfl (Nat.le_of_ble_eq_true rfl) (Nat.le_of_ble_eq_true rfl) ⟨by simp only [gvu]; rw [if_pos h1, if_neg hc, if_neg he], rfl⟩
  · rw [if_neg h1]
    refine tk_if_ne (pc := 8) (tgt := 34) d_P_givenUp_8 (by decide) (fun hb => ?_) (fun hb => ?_)
    · refine tk_iconst (pc := 34) (v := 1) d_P_givenUp_34 (by decide) ?_
      refine tk_goto (pc := 35) (tgt := 39) d_P_givenUp_35 (by decide) ?_
      exact tk_ireturn (pc := 39) d_P_givenUp_39 rfl rfl (Nat.le_of_ble_eq_true rfl) (Nat.le_of_ble_eq_true rfl) ⟨by simp only [gvu]; rw [if_neg h1], rfl⟩
    · exact absurd hb (by decide)
theorem m_keepIf {g : sG} {h : sH} {G : Nat} {rm sb : Ar} {al dn : Int32} {c : sC} {t : tk_W} {x : sT} (hG : G < 6) : tk_M y_P_keepIfAllHold w_P_keepIfAllHold 1 0 0 [.ref 16] (wP g h G rm sb al dn c t x) (tk_det (.inl none) (wP g h G rm sb al dn c t (kih G x))) := by
  refine tk_M.of (lv := [some (.ref 16), none]) (by decide) (Nat.le_of_ble_eq_true rfl) rfl ?_
  refine tk_aload_n (pc := 0) d_P_keepIfAllHold_0 rfl ?_
  refine tk_get (pc := 1) d_P_keepIfAllHold_1 f_P_12 rfl rfl ?_
  refine tk_callVr (pc := 4) d_P_keepIfAllHold_4 l_P_76 k_S_broken rfl rfl rfl (m_brokenP (f := x.1) (n := G) hG) rfl (by omega) (Nat.le_of_ble_eq_true rfl) (Nat.le_of_ble_eq_true rfl) (Nat.le_of_ble_eq_true rfl) rfl rfl ?_
  refine tk_if_eq (pc := 7) (tgt := 11) d_P_keepIfAllHold_7 (by decide) (fun hb => ?_) (fun hb => ?_)
  · refine tk_aload_n (pc := 11) d_P_keepIfAllHold_11 rfl ?_
    refine tk_aload_n (pc := 12) d_P_keepIfAllHold_12 rfl ?_
    refine tk_get (pc := 13) d_P_keepIfAllHold_13 f_P_12 rfl rfl ?_
    refine tk_aload_n (pc := 16) d_P_keepIfAllHold_16 rfl ?_
    refine tk_get (pc := 17) d_P_keepIfAllHold_17 f_P_12 rfl rfl ?_
    refine tk_get (pc := 20) d_P_keepIfAllHold_20 f_P_50 rfl rfl ?_
    refine tk_callVr (pc := 23) d_P_keepIfAllHold_23 l_P_72 k_S_cents rfl rfl rfl (m_centsP (f := x.1) (k := G) hG) rfl (by omega) (Nat.le_of_ble_eq_true rfl) (Nat.le_of_ble_eq_true rfl) (Nat.le_of_ble_eq_true rfl) rfl rfl ?_
    refine tk_put (pc := 26) d_P_keepIfAllHold_26 f_P_29 p_P_3 rfl rfl rfl (Nat.le_of_ble_eq_true rfl) rfl ?_
    refine tk_iconst (pc := 29) (v := 0) d_P_keepIfAllHold_29 (by decide) ?_
    refine tk_istore1 (pc := 30) d_P_keepIfAllHold_30 rfl (by decide) ?_
    have key : ∀ (m i : Nat), i + m = 5 → tk_T y_P_keepIfAllHold c_P_keepIfAllHold 2 none [] 1 0 0 (fun _ => none) 0 0 (tk_det (.inl none) (wP g h G rm sb al dn c t (kih G x))) 31 [some (.ref 16), some (.int (nI i))] [] (wP g h G rm sb al dn c t (x.1, x.2.1, cpf x.2.2.1 x.2.1 0 i, x.1 (G * 12 + 11), x.2.2.2.2.1, x.2.2.2.2.2)) := by
      intro m
      induction m with
      | zero =>
        intro i hi'
        obtain rfl : i = 5 := by omega
        refine tk_iload_n (pc := 31) d_P_keepIfAllHold_31 rfl ?_
        refine tk_iconst (pc := 32) (v := 5) d_P_keepIfAllHold_32 (by decide) ?_
        refine tk_icmp_ge (pc := 33) (tgt := 54) d_P_keepIfAllHold_33 (by decide) (fun hc => ?_) (fun hc => ?_)
        · exact tk_return (pc := 54) d_P_keepIfAllHold_54 rfl (Nat.le_of_ble_eq_true rfl) (Nat.le_of_ble_eq_true rfl) ⟨rfl, by simp only [kih]; rw [if_pos hb]⟩
        · exact absurd (show nI 5 ≤ nI 5 from by decide) hc
      | succ m ih =>
        intro i hi'
        refine tk_iload_n (pc := 31) d_P_keepIfAllHold_31 rfl ?_
        refine tk_iconst (pc := 32) (v := 5) d_P_keepIfAllHold_32 (by decide) ?_
        refine tk_icmp_ge (pc := 33) (tgt := 54) d_P_keepIfAllHold_33 (by decide) (fun hc => ?_) (fun hc => ?_)
        · exact absurd ((nI_leI (a := 5) (b := i) (by omega) (by omega)).mp hc) (by omega)
        refine tk_aload_n (pc := 36) d_P_keepIfAllHold_36 rfl ?_
        refine tk_get (pc := 37) d_P_keepIfAllHold_37 f_P_22 rfl rfl ?_
        refine tk_iload_n (pc := 40) d_P_keepIfAllHold_40 rfl ?_
        refine tk_aload_n (pc := 41) d_P_keepIfAllHold_41 rfl ?_
        refine tk_get (pc := 42) d_P_keepIfAllHold_42 f_P_18 rfl rfl ?_
        refine tk_iload_n (pc := 45) d_P_keepIfAllHold_45 rfl ?_
        refine tk_iald (pc := 46) i d_P_keepIfAllHold_46 rfl rfl (by omega) (by decide) ?_
        refine tk_iast (pc := 47) i d_P_keepIfAllHold_47 rfl rfl (by omega) (by decide) ?_
        refine tk_jinc1 (pc := 48) d_P_keepIfAllHold_48 rfl (by decide) ?_
        refine tk_goto (pc := 51) (tgt := 31) d_P_keepIfAllHold_51 (by decide) ?_
        refine tk_eq rfl ?_ rfl ?_ (ih (i + 1) (by omega))
        · rw [inc1]
        · rw [← cpf_s, Nat.zero_add]; rfl
    exact tk_eq rfl rfl rfl (by rw [cpf_0]; rfl) (key 5 0 rfl)
  · exact tk_return (pc := 10) d_P_keepIfAllHold_10 rfl (Nat.le_of_ble_eq_true rfl) (Nat.le_of_ble_eq_true rfl) ⟨rfl, by simp only [kih]; rw [if_neg hb]⟩
set_option maxHeartbeats 1000000 in
theorem m_try {g : sG} {h : sH} {G : Nat} {R : Nat → Nat} {rm sb : Ar} {al dn : Int32} {c : sC} {t : tk_W} (hG : G < 6) (hR : ∀ k, k < G → rm k = nI (R k) ∧ R k < 100) : ∀ (m k : Nat) (x : sT), k + m = G → tk_M y_P_tryNumbers w_P_tryNumbers (2 + m) 0 0 [.ref 16, .int (nI k)] (wP g h G rm sb al dn c t x) (tk_det (.inl none) (wP g h G rm sb al dn c t (tryF G R sb al m k x))) := by
  intro m
  induction m with
  | zero =>
    intro k x hk
    obtain rfl : k = G := by omega
    refine tk_M.of (lv := [some (.ref 16), some (.int (nI k)), none]) (by decide) (Nat.le_of_ble_eq_true rfl) rfl ?_
    refine tk_iload_n (pc := 0) d_P_tryNumbers_0 rfl ?_
    refine tk_aload_n (pc := 1) d_P_tryNumbers_1 rfl ?_
    refine tk_get (pc := 2) d_P_tryNumbers_2 f_P_12 rfl rfl ?_
    refine tk_get (pc := 5) d_P_tryNumbers_5 f_P_50 rfl rfl ?_
    refine tk_icmp_lt (pc := 8) (tgt := 16) d_P_tryNumbers_8 (by decide) (fun hb => ?_) (fun hb => ?_)
    · exact absurd hb (nI_nlt (Nat.le_refl _) (by omega))
    refine tk_aload_n (pc := 11) d_P_tryNumbers_11 rfl ?_
    refine tk_callVr (pc := 12) d_P_tryNumbers_12 l_P_53 k_P_keepIfAllHold rfl rfl rfl (m_keepIf (x := x) hG) rfl (by omega) (Nat.le_of_ble_eq_true rfl) (Nat.le_of_ble_eq_true rfl) (Nat.le_of_ble_eq_true rfl) rfl rfl ?_
    exact tk_return (pc := 15) d_P_tryNumbers_15 rfl (Nat.le_of_ble_eq_true rfl) (Nat.le_of_ble_eq_true rfl) ⟨rfl, rfl⟩
  | succ m IH =>
    intro k x hk
    obtain ⟨hr1, hr2⟩ := hR k (by omega)
    refine tk_M.of (lv := [some (.ref 16), some (.int (nI k)), none]) (by decide) (Nat.le_of_ble_eq_true rfl) rfl ?_
    refine tk_iload_n (pc := 0) d_P_tryNumbers_0 rfl ?_
    refine tk_aload_n (pc := 1) d_P_tryNumbers_1 rfl ?_
    refine tk_get (pc := 2) d_P_tryNumbers_2 f_P_12 rfl rfl ?_
    refine tk_get (pc := 5) d_P_tryNumbers_5 f_P_50 rfl rfl ?_
    refine tk_icmp_lt (pc := 8) (tgt := 16) d_P_tryNumbers_8 (by decide) (fun hb => ?_) (fun hb => ?_)
    · refine tk_aload_n (pc := 16) d_P_tryNumbers_16 rfl ?_
      refine tk_get (pc := 17) d_P_tryNumbers_17 f_P_12 rfl rfl ?_
      refine tk_iload_n (pc := 20) d_P_tryNumbers_20 rfl ?_
      refine tk_callVr (pc := 21) d_P_tryNumbers_21 l_P_56 k_S_settle rfl rfl rfl (m_settleP (f := x.1) (k := k) (by omega)) rfl (by omega) (Nat.le_of_ble_eq_true rfl) (Nat.le_of_ble_eq_true rfl) (Nat.le_of_ble_eq_true rfl) rfl rfl ?_
      refine tk_iconst (pc := 24) (v := 0) d_P_tryNumbers_24 (by decide) ?_
      refine tk_istore2 (pc := 25) d_P_tryNumbers_25 rfl (by decide) ?_
      have key : ∀ (r v : Nat) (z : sT), v + r = R k + 1 → tryL (tryF G R sb al m (k + 1)) sb al k r v z = tryF G R sb al (m + 1) k x → tk_T y_P_tryNumbers c_P_tryNumbers 3 none [] (2 + (m + 1)) 0 0 (fun _ => none) 0 0 (tk_det (.inl none) (wP g h G rm sb al dn c t (tryF G R sb al (m + 1) k x))) 26 [some (.ref 16), some (.int (nI k)), some (.int (nI v))] [] (wP g h G rm sb al dn c t z) := by
        intro r
        induction r with
        | zero =>
          intro v z hv hz
          refine tk_iload_n (pc := 26) d_P_tryNumbers_26 rfl ?_
          refine tk_aload_n (pc := 27) d_P_tryNumbers_27 rfl ?_
          refine tk_get (pc := 28) d_P_tryNumbers_28 f_P_12 rfl rfl ?_
          refine tk_get (pc := 31) d_P_tryNumbers_31 f_P_59 rfl rfl ?_
          refine tk_iload_n (pc := 34) d_P_tryNumbers_34 rfl ?_
          refine tk_iald (pc := 35) k d_P_tryNumbers_35 rfl rfl (by omega) (by decide) ?_
          refine tk_icmp_gt (pc := 36) (tgt := 108) d_P_tryNumbers_36 (by decide) (fun hc => ?_) (fun hc => ?_)
          · exact tk_return (pc := 108) d_P_tryNumbers_108 rfl (Nat.le_of_ble_eq_true rfl) (Nat.le_of_ble_eq_true rfl) ⟨rfl, by rw [← hz]; rfl⟩
          · exact absurd (show rm k < nI v from by rw [hr1]; exact nI_lt (by omega) (by omega)) hc
        | succ r ih =>
          intro v z hv hz
          refine tk_iload_n (pc := 26) d_P_tryNumbers_26 rfl ?_
          refine tk_aload_n (pc := 27) d_P_tryNumbers_27 rfl ?_
          refine tk_get (pc := 28) d_P_tryNumbers_28 f_P_12 rfl rfl ?_
          refine tk_get (pc := 31) d_P_tryNumbers_31 f_P_59 rfl rfl ?_
          refine tk_iload_n (pc := 34) d_P_tryNumbers_34 rfl ?_
          refine tk_iald (pc := 35) k d_P_tryNumbers_35 rfl rfl (by omega) (by decide) ?_
          refine tk_icmp_gt (pc := 36) (tgt := 108) d_P_tryNumbers_36 (by decide) (fun hc => ?_) (fun hc => ?_)
          · exact absurd (show rm k < nI v from hc) (by rw [hr1]; exact nI_nlt (by omega) (by omega))
          refine tk_aload_n (pc := 39) d_P_tryNumbers_39 rfl ?_
          refine tk_get (pc := 40) d_P_tryNumbers_40 f_P_36 rfl rfl ?_
          refine tk_aload_n (pc := 43) d_P_tryNumbers_43 rfl ?_
          refine tk_get (pc := 44) d_P_tryNumbers_44 f_P_33 rfl rfl ?_
          refine tk_icmp_lt (pc := 47) (tgt := 56) d_P_tryNumbers_47 (by decide) (fun he => ?_) (fun he => ?_)
          · have hz' : tryL (tryF G R sb al m (k + 1)) sb al k r (v + 1) (if gvu (try1 sb k v z).1 (try1 sb k v z).2.2.2.1 (k + 1) = 0 then tryF G R sb al m (k + 1) (try1 sb k v z) else try1 sb k v z) = tryF G R sb al (m + 1) k x := by
              rw [← hz]
              show _ = if z.2.2.2.2.1 < al then _ else _
              rw [if_pos he]
            refine tk_aload_n (pc := 56) d_P_tryNumbers_56 rfl ?_
            refine tk_dup (pc := 57) d_P_tryNumbers_57 rfl ?_
            refine tk_get (pc := 58) d_P_tryNumbers_58 f_P_36 rfl rfl ?_
            refine tk_iconst (pc := 61) (v := 1) d_P_tryNumbers_61 (by decide) ?_
            refine tk_iadd (pc := 62) d_P_tryNumbers_62 ?_
            refine tk_put (pc := 63) d_P_tryNumbers_63 f_P_36 p_P_5 rfl rfl rfl (Nat.le_of_ble_eq_true rfl) rfl ?_
            refine tk_iload_n (pc := 66) d_P_tryNumbers_66 rfl ?_
            refine tk_ww (wP g h G rm sb al dn c t (z.1, z.2.1, z.2.2.1, z.2.2.2.1, z.2.2.2.2.1 + 1, z.2.2.2.2.2)) rfl ?_
            have tail : tk_T y_P_tryNumbers c_P_tryNumbers 3 none [] (2 + (m + 1)) 0 0 (fun _ => none) 0 0 (tk_det (.inl none) (wP g h G rm sb al dn c t (tryF G R sb al (m + 1) k x))) 78 [some (.ref 16), some (.int (nI k)), some (.int (nI v))] [] (wP g h G rm sb al dn c t (if v = 0 then z.1 else adb z.1 sb k 12, z.2.1, z.2.2.1, z.2.2.2.1, z.2.2.2.2.1 + 1, z.2.2.2.2.2)) := by
              refine tk_aload_n (pc := 78) d_P_tryNumbers_78 rfl ?_
              refine tk_get (pc := 79) d_P_tryNumbers_79 f_P_18 rfl rfl ?_
              refine tk_iload_n (pc := 82) d_P_tryNumbers_82 rfl ?_
              refine tk_iload_n (pc := 83) d_P_tryNumbers_83 rfl ?_
              refine tk_iast (pc := 84) k d_P_tryNumbers_84 rfl rfl (by omega) (by decide) ?_
              refine tk_aload_n (pc := 85) d_P_tryNumbers_85 rfl ?_
              refine tk_iload_n (pc := 86) d_P_tryNumbers_86 rfl ?_
              refine tk_iconst (pc := 87) (v := 1) d_P_tryNumbers_87 (by decide) ?_
              refine tk_iadd (pc := 88) d_P_tryNumbers_88 ?_
              refine tk_ww (wP g h G rm sb al dn c t (try1 sb k v z)) rfl ?_
              rw [show nI k + 1 = nI (k + 1) from nI_1 k]
              refine tk_callVr (pc := 89) d_P_tryNumbers_89 l_P_65 k_P_givenUp rfl rfl rfl (m_givenUp (x := try1 sb k v z) (k := k + 1) (by omega)) rfl (by omega) (Nat.le_of_ble_eq_true rfl) (Nat.le_of_ble_eq_true rfl) (Nat.le_of_ble_eq_true rfl) rfl rfl ?_
              by_cases hu : gvu (try1 sb k v z).1 (try1 sb k v z).2.2.2.1 (k + 1) = 0
              · rw [if_pos hu] at hz'
                refine tk_if_ne (pc := 92) (tgt := 102) d_P_tryNumbers_92 (by decide) (fun hf => ?_) (fun hf => ?_)
                · exact absurd hu hf
                refine tk_aload_n (pc := 95) d_P_tryNumbers_95 rfl ?_
                refine tk_iload_n (pc := 96) d_P_tryNumbers_96 rfl ?_
                refine tk_iconst (pc := 97) (v := 1) d_P_tryNumbers_97 (by decide) ?_
                refine tk_iadd (pc := 98) d_P_tryNumbers_98 ?_
                rw [show nI k + 1 = nI (k + 1) from nI_1 k]
                refine tk_callVr (pc := 99) d_P_tryNumbers_99 l_P_46 k_P_tryNumbers rfl rfl rfl (IH (k + 1) (try1 sb k v z) (by omega)) rfl (by omega) (Nat.le_of_ble_eq_true rfl) (Nat.le_of_ble_eq_true rfl) (Nat.le_of_ble_eq_true rfl) rfl rfl ?_
                refine tk_jinc2 (pc := 102) d_P_tryNumbers_102 rfl (by decide) ?_
                refine tk_goto (pc := 105) (tgt := 26) d_P_tryNumbers_105 (by decide) ?_
                exact tk_eq rfl (by rw [inc1]) rfl rfl (ih (v + 1) _ (by omega) hz')
              · rw [if_neg hu] at hz'
                refine tk_if_ne (pc := 92) (tgt := 102) d_P_tryNumbers_92 (by decide) (fun hf => ?_) (fun hf => ?_)
                · refine tk_jinc2 (pc := 102) d_P_tryNumbers_102 rfl (by decide) ?_
                  refine tk_goto (pc := 105) (tgt := 26) d_P_tryNumbers_105 (by decide) ?_
                  exact tk_eq rfl (by rw [inc1]) rfl rfl (ih (v + 1) _ (by omega) hz')
                · exact absurd hf hu
            refine tk_if_le (pc := 67) (tgt := 78) d_P_tryNumbers_67 (by decide) (fun hf => ?_) (fun hf => ?_)
            · have hv0 : v = 0 := by
                rcases Nat.eq_zero_or_pos v with q | q
                · exact q
                · exact absurd hf (nI_nle q (by omega))
              refine tk_eq rfl rfl rfl ?_ tail
              rw [if_pos hv0]
            · have hv0 : ¬ v = 0 := fun q => hf (by rw [q]; decide)
              refine tk_aload_n (pc := 70) d_P_tryNumbers_70 rfl ?_
              refine tk_get (pc := 71) d_P_tryNumbers_71 f_P_12 rfl rfl ?_
              refine tk_iload_n (pc := 74) d_P_tryNumbers_74 rfl ?_
              refine tk_callVr (pc := 75) d_P_tryNumbers_75 l_P_62 k_S_addBundle rfl rfl rfl (m_addP (f := z.1) (k := k) (by omega)) rfl (by omega) (Nat.le_of_ble_eq_true rfl) (Nat.le_of_ble_eq_true rfl) (Nat.le_of_ble_eq_true rfl) rfl rfl ?_
              refine tk_eq rfl rfl rfl ?_ tail
              rw [if_neg hv0]
          · refine tk_aload_n (pc := 50) d_P_tryNumbers_50 rfl ?_
            refine tk_iconst (pc := 51) (v := 1) d_P_tryNumbers_51 (by decide) ?_
            refine tk_put (pc := 52) d_P_tryNumbers_52 f_P_39 p_P_6 rfl rfl rfl (Nat.le_of_ble_eq_true rfl) rfl ?_
            exact tk_return (pc := 55) d_P_tryNumbers_55 rfl (Nat.le_of_ble_eq_true rfl) (Nat.le_of_ble_eq_true rfl) ⟨rfl, by rw [← hz]; show _ = wP g h G rm sb al dn c t (if z.2.2.2.2.1 < al then _ else _); rw [if_neg he]; rfl⟩
      exact key (R k + 1) 0 (stl x.1 k 12, x.2) (by omega) rfl
    · exact absurd (nI_lt (by omega) (by omega)) hb
theorem m_search {gn : Nat} {gt : Ar × Ar × Ar × Ar × Ar × Ar} {h : sH} {c : sC} {t : tk_W} {sn : Int32} {sr sb f ch be : Ar} {q : Int32 × Int32 × Int32 × Int32 × Int32} {R : Nat → Nat} {ht : Nat} {al : Int32} (hg : gn < 6) (hh : ht < 4) (hR : ∀ k, k < gn → rmin (nI gn, gt) k = nI (R k) ∧ R k < 100) :
    tk_M y_P_search w_P_search 8 0 0 [.ref 16, .ref 1, .ref 8, .int (nI ht), .int al] (wd (nI gn, gt) h ((sn, sr, sb, f), ch, be, q) c t) (tk_det (.inl none) (wP (nI gn, gt) h gn (rmf (nI gn, gt) sr gn) (pbf (nI gn, gt) h ht sb gn) al 1 c t (tryF gn R (pbf (nI gn, gt) h ht sb gn) al gn 0 (ldR f h ht, ch, be, -1, 0, 0)))) := by
  refine tk_M.of (lv := [some (.ref 16), some (.ref 1), some (.ref 8), some (.int (nI ht)), some (.int al)]) (by decide) (Nat.le_of_ble_eq_true rfl) rfl ?_
  refine tk_aload_n (pc := 0) d_P_search_0 rfl ?_
  refine tk_get (pc := 1) d_P_search_1 f_P_12 rfl rfl ?_
  refine tk_aload_n (pc := 4) d_P_search_4 rfl ?_
  refine tk_aload_n (pc := 5) d_P_search_5 rfl ?_
  refine tk_iload_n (pc := 6) d_P_search_6 rfl ?_
  refine tk_callVr (pc := 7) d_P_search_7 l_P_25 k_S_load rfl rfl rfl (m_loadP (gn := gn) (gt := gt) (f := f) (ht := ht) hg hh) rfl (by omega) (Nat.le_of_ble_eq_true rfl) (Nat.le_of_ble_eq_true rfl) (Nat.le_of_ble_eq_true rfl) rfl rfl ?_
  refine tk_aload_n (pc := 10) d_P_search_10 rfl ?_
  refine tk_iconst (pc := 11) (v := -1) d_P_search_11 (by decide) ?_
  refine tk_put (pc := 12) d_P_search_12 f_P_29 p_P_3 rfl rfl rfl (Nat.le_of_ble_eq_true rfl) rfl ?_
  refine tk_aload_n (pc := 15) d_P_search_15 rfl ?_
  refine tk_iload (pc := 16) d_P_search_16 rfl ?_
  refine tk_put (pc := 18) d_P_search_18 f_P_33 p_P_4 rfl rfl rfl (Nat.le_of_ble_eq_true rfl) rfl ?_
  refine tk_aload_n (pc := 21) d_P_search_21 rfl ?_
  refine tk_iconst (pc := 22) (v := 0) d_P_search_22 (by decide) ?_
  refine tk_put (pc := 23) d_P_search_23 f_P_36 p_P_5 rfl rfl rfl (Nat.le_of_ble_eq_true rfl) rfl ?_
  refine tk_aload_n (pc := 26) d_P_search_26 rfl ?_
  refine tk_iconst (pc := 27) (v := 0) d_P_search_27 (by decide) ?_
  refine tk_put (pc := 28) d_P_search_28 f_P_39 p_P_6 rfl rfl rfl (Nat.le_of_ble_eq_true rfl) rfl ?_
  refine tk_aload_n (pc := 31) d_P_search_31 rfl ?_
  refine tk_iconst (pc := 32) (v := 1) d_P_search_32 (by decide) ?_
  refine tk_put (pc := 33) d_P_search_33 f_P_43 p_P_7 rfl rfl rfl (Nat.le_of_ble_eq_true rfl) rfl ?_
  refine tk_aload_n (pc := 36) d_P_search_36 rfl ?_
  refine tk_iconst (pc := 37) (v := 0) d_P_search_37 (by decide) ?_
  refine tk_callVr (pc := 38) d_P_search_38 l_P_46 k_P_tryNumbers rfl rfl rfl (m_try (G := gn) (R := R) (rm := rmf (nI gn, gt) sr gn) (sb := pbf (nI gn, gt) h ht sb gn) (al := al) (dn := 1) (g := (nI gn, gt)) (h := h) (c := c) (t := t) hg (fun k hk => by simp only [rmf]; rw [if_pos hk]; exact hR k hk) gn 0 (ldR f h ht, ch, be, -1, 0, 0) (by omega)) rfl (by omega) (Nat.le_of_ble_eq_true rfl) (Nat.le_of_ble_eq_true rfl) (Nat.le_of_ble_eq_true rfl) rfl rfl ?_
  exact tk_return (pc := 41) d_P_search_41 rfl (Nat.le_of_ble_eq_true rfl) (Nat.le_of_ble_eq_true rfl) ⟨rfl, rfl⟩
end
section
/-! ===== Clashing ===== -/
theorem nI_or (a b : Nat) : nI a ||| nI b = nI (a ||| b) := by
  apply Int32.toBitVec_inj.1
  show BitVec.ofNat 32 a ||| BitVec.ofNat 32 b = BitVec.ofNat 32 (a ||| b)
  apply BitVec.eq_of_getLsbD_eq
  intro i hi
  simp [BitVec.getLsbD_ofNat, Nat.testBit_or, hi]
theorem nI_and (a b : Nat) : nI a &&& nI b = nI (a &&& b) := by
  apply Int32.toBitVec_inj.1
  show BitVec.ofNat 32 a &&& BitVec.ofNat 32 b = BitVec.ofNat 32 (a &&& b)
  apply BitVec.eq_of_getLsbD_eq
  intro i hi
  simp [BitVec.getLsbD_ofNat, Nat.testBit_and, hi]
theorem nI_sh1 : ∀ i, i < 31 → (1 : Int32) <<< (nI i &&& 31) = nI (2 ^ i) := by decide +kernel
/-- the broken rules as a number -/
def brn (f : Ar) (b : Nat) : Nat → Nat
  | 0 => 0
  | i + 1 => if f (b + i) ≤ 0 then brn f b i else brn f b i ||| 2 ^ i
theorem brk_n (f : Ar) (b : Nat) : ∀ i, i ≤ 11 → brk f b i = nI (brn f b i) := by
  intro i
  induction i with
  | zero => intro _; rfl
  | succ i ih =>
    intro hi
    simp only [brk, brn]
    split
    · exact ih (by omega)
    · rw [ih (by omega), nI_sh1 i (by omega), nI_or]
theorem brn_lt (f : Ar) (b : Nat) : ∀ i, brn f b i < 2 ^ i := by
  intro i
  induction i with
  | zero => simp [brn]
  | succ i ih =>
    simp only [brn]
    split
    · exact Nat.lt_trans ih (Nat.pow_lt_pow_right (by decide) (Nat.lt_succ_self i))
    · exact Nat.or_lt_two_pow (Nat.lt_trans ih (Nat.pow_lt_pow_right (by decide) (Nat.lt_succ_self i))) (Nat.pow_lt_pow_right (by decide) (Nat.lt_succ_self i))
/-- rows, seen, allHold -/
abbrev sW : Type := Ar × (Nat → Int64) × Int32
def orb (s : Nat → Int64) (n : Nat) : Nat → Int64 := vp_updL s (n / 64) (s (n / 64) ||| (1 : Int64) <<< ((nI (n % 64)).toInt64 &&& 63))
def wlf (G : Nat) (x : sW) : sW := (x.1, orb x.2.1 (brn x.1 (G * 12) 11), if x.2.2 = 0 then (if brn x.1 (G * 12) 11 = 0 then 1 else 0) else 1)
def wkL (rec : sW → sW) (sb : Ar) (k : Nat) : Nat → Nat → sW → sW
  | 0, _, x => x
  | r + 1, v, x => if x.2.2 = 0 then wkL rec sb k r (v + 1) (rec (if v = 0 then x.1 else adb x.1 sb k 12, x.2)) else x
def wkF (G : Nat) (R : Nat → Nat) (sb : Ar) : Nat → Nat → sW → sW
  | 0, _, x => wlf G x
  | m + 1, k, x => wkL (wkF G R sb m (k + 1)) sb k (R k + 1) 0 (stl x.1 k 12, x.2)
abbrev wC (g : sG) (h : sH) (p : sP) (G : Nat) (rm sb : Ar) (t : tk_W) (x : sW) : tk_W := wd g h p ((nI G, rm, sb, x.1), x.2.1, x.2.2) t
set_option maxHeartbeats 1000000 in
theorem m_walk {g : sG} {h : sH} {p : sP} {G : Nat} {R : Nat → Nat} {rm sb : Ar} {t : tk_W} (hG : G < 6) (hR : ∀ k, k < G → rm k = nI (R k) ∧ R k < 100) : ∀ (m k : Nat) (x : sW), k + m = G → tk_M y_C_walk w_C_walk (1 + m) 0 0 [.ref 23, .int (nI k)] (wC g h p G rm sb t x) (tk_det (.inl none) (wC g h p G rm sb t (wkF G R sb m k x))) := by
  intro m
  induction m with
  | zero =>
    intro k x hk
    obtain rfl : k = G := by omega
    have hlt := brn_lt x.1 (k * 12) 11
    refine tk_M.of (lv := [some (.ref 23), some (.int (nI k)), none]) (by decide) (Nat.le_of_ble_eq_true rfl) rfl ?_
    refine tk_iload_n (pc := 0) d_C_walk_0 rfl ?_
    refine tk_aload_n (pc := 1) d_C_walk_1 rfl ?_
    refine tk_get (pc := 2) d_C_walk_2 f_C_12 rfl rfl ?_
    refine tk_get (pc := 5) d_C_walk_5 f_C_38 rfl rfl ?_
    refine tk_icmp_lt (pc := 8) (tgt := 58) d_C_walk_8 (by decide) (fun hb => ?_) (fun hb => ?_)
    · exact absurd hb (nI_nlt (Nat.le_refl _) (by omega))
    refine tk_aload_n (pc := 11) d_C_walk_11 rfl ?_
    refine tk_get (pc := 12) d_C_walk_12 f_C_12 rfl rfl ?_
    refine tk_callVr (pc := 15) d_C_walk_15 l_C_42 k_S_broken rfl rfl rfl (m_brokenC (f := x.1) (n := k) hG) rfl (by omega) (Nat.le_of_ble_eq_true rfl) (Nat.le_of_ble_eq_true rfl) (Nat.le_of_ble_eq_true rfl) rfl rfl ?_
    rw [brk_n x.1 (k * 12) 11 (Nat.le_refl _)]
    generalize hnb : brn x.1 (k * 12) 11 = nb at hlt
    refine tk_istore2 (pc := 18) d_C_walk_18 rfl (by decide) ?_
    refine tk_aload_n (pc := 19) d_C_walk_19 rfl ?_
    refine tk_get (pc := 20) d_C_walk_20 f_C_18 rfl rfl ?_
    refine tk_iload_n (pc := 23) d_C_walk_23 rfl ?_
    refine tk_bipush (pc := 24) (v := 64) d_C_walk_24 (by decide) ?_
    refine tk_idiv (pc := 26) d_C_walk_26 (by decide) ?_
    rw [show nI nb / 64 = nI (nb / 64) from pk_div (by omega) (by decide) (by decide)]
    refine tk_dup2 (pc := 27) d_C_walk_27 rfl rfl ?_
    refine tk_lald (pc := 28) (nb/64) d_C_walk_28 rfl rfl (by omega) (by decide) ?_
    refine tk_lconst (pc := 29) (v := 1) d_C_walk_29 (by decide) ?_
    refine tk_iload_n (pc := 30) d_C_walk_30 rfl ?_
    refine tk_bipush (pc := 31) (v := 64) d_C_walk_31 (by decide) ?_
    refine tk_irem (pc := 33) d_C_walk_33 (by decide) ?_
    rw [show nI nb - nI nb / 64 * 64 = nI (nb % 64) from pk_rem (d := 64) (by omega) (by decide) (by decide)]
    refine tk_lshl (pc := 34) d_C_walk_34 ?_
    refine tk_lor (pc := 35) d_C_walk_35 ?_
    refine tk_last (pc := 36) (nb/64) d_C_walk_36 rfl rfl (by omega) (by decide) ?_
    refine tk_aload_n (pc := 37) d_C_walk_37 rfl ?_
    refine tk_aload_n (pc := 38) d_C_walk_38 rfl ?_
    refine tk_get (pc := 39) d_C_walk_39 f_C_26 rfl rfl ?_
    have hend : ∀ (v : Int32), v = (if x.2.2 = 0 then (if nb = 0 then 1 else 0) else 1) → vp_nar .boolean v = v → tk_T y_C_walk c_C_walk 3 none [] (1 + 0) 0 0 (fun _ => none) 0 0 (tk_det (.inl none) (wC g h p k rm sb t (wkF k R sb 0 k x))) 54 [some (.ref 23), some (.int (nI k)), some (.int (nI nb))] [.int v, .ref 23] (wC g h p k rm sb t (x.1, orb x.2.1 nb, x.2.2)) := by
      intro v hv hv2
      refine tk_put (pc := 54) d_C_walk_54 f_C_26 p_C_2 rfl (by rw [hv]; split <;> (try split) <;> rfl) (by rw [hv]; split <;> (try split) <;> rfl) (Nat.le_of_ble_eq_true rfl) rfl ?_
      exact tk_return (pc := 57) d_C_walk_57 rfl (Nat.le_of_ble_eq_true rfl) (Nat.le_of_ble_eq_true rfl) ⟨rfl, by show _ = wC g h p k rm sb t (x.1, orb x.2.1 (brn x.1 (k * 12) 11), if x.2.2 = 0 then (if brn x.1 (k * 12) 11 = 0 then 1 else 0) else 1); rw [hnb, ← hv]; rfl⟩
    refine tk_if_ne (pc := 42) (tgt := 49) d_C_walk_42 (by decide) (fun hc => ?_) (fun hc => ?_)
    · refine tk_iconst (pc := 49) (v := 1) d_C_walk_49 (by decide) ?_
      refine tk_goto (pc := 50) (tgt := 54) d_C_walk_50 (by decide) ?_
      exact hend 1 (by rw [if_neg hc]) rfl
    refine tk_iload_n (pc := 45) d_C_walk_45 rfl ?_
    refine tk_if_ne (pc := 46) (tgt := 53) d_C_walk_46 (by decide) (fun he => ?_) (fun he => ?_)
    · refine tk_iconst (pc := 53) (v := 0) d_C_walk_53 (by decide) ?_
      refine hend 0 ?_ rfl
      rw [if_pos hc, if_neg (fun q => he (by rw [q]; rfl))]
    · refine tk_iconst (pc := 49) (v := 1) d_C_walk_49 (by decide) ?_
      refine tk_goto (pc := 50) (tgt := 54) d_C_walk_50 (by decide) ?_
      refine hend 1 ?_ rfl
      rw [if_pos hc, if_pos ((nI_eq (b := 0) (by omega) (by omega)).mp he)]
  | succ m IH =>
    intro k x hk
    obtain ⟨hr1, hr2⟩ := hR k (by omega)
    refine tk_M.of (lv := [some (.ref 23), some (.int (nI k)), none]) (by decide) (Nat.le_of_ble_eq_true rfl) rfl ?_
    refine tk_iload_n (pc := 0) d_C_walk_0 rfl ?_
    refine tk_aload_n (pc := 1) d_C_walk_1 rfl ?_
    refine tk_get (pc := 2) d_C_walk_2 f_C_12 rfl rfl ?_
    refine tk_get (pc := 5) d_C_walk_5 f_C_38 rfl rfl ?_
    refine tk_icmp_lt (pc := 8) (tgt := 58) d_C_walk_8 (by decide) (fun hb => ?_) (fun hb => ?_)
    · refine tk_aload_n (pc := 58) d_C_walk_58 rfl ?_
      refine tk_get (pc := 59) d_C_walk_59 f_C_12 rfl rfl ?_
      refine tk_iload_n (pc := 62) d_C_walk_62 rfl ?_
      refine tk_callVr (pc := 63) d_C_walk_63 l_C_46 k_S_settle rfl rfl rfl (m_settleC (f := x.1) (k := k) (by omega)) rfl (by omega) (Nat.le_of_ble_eq_true rfl) (Nat.le_of_ble_eq_true rfl) (Nat.le_of_ble_eq_true rfl) rfl rfl ?_
      refine tk_iconst (pc := 66) (v := 0) d_C_walk_66 (by decide) ?_
      refine tk_istore2 (pc := 67) d_C_walk_67 rfl (by decide) ?_
      have key : ∀ (r v : Nat) (z : sW), v + r = R k + 1 → wkL (wkF G R sb m (k + 1)) sb k r v z = wkF G R sb (m + 1) k x → tk_T y_C_walk c_C_walk 3 none [] (1 + (m + 1)) 0 0 (fun _ => none) 0 0 (tk_det (.inl none) (wC g h p G rm sb t (wkF G R sb (m + 1) k x))) 68 [some (.ref 23), some (.int (nI k)), some (.int (nI v))] [] (wC g h p G rm sb t z) := by
        intro r
        induction r with
        | zero =>
          intro v z hv hz
          refine tk_iload_n (pc := 68) d_C_walk_68 rfl ?_
          refine tk_aload_n (pc := 69) d_C_walk_69 rfl ?_
          refine tk_get (pc := 70) d_C_walk_70 f_C_12 rfl rfl ?_
          refine tk_get (pc := 73) d_C_walk_73 f_C_49 rfl rfl ?_
          refine tk_iload_n (pc := 76) d_C_walk_76 rfl ?_
          refine tk_iald (pc := 77) k d_C_walk_77 rfl rfl (by omega) (by decide) ?_
          refine tk_icmp_gt (pc := 78) (tgt := 113) d_C_walk_78 (by decide) (fun hc => ?_) (fun hc => ?_)
          · exact tk_return (pc := 113) d_C_walk_113 rfl (Nat.le_of_ble_eq_true rfl) (Nat.le_of_ble_eq_true rfl) ⟨rfl, by rw [← hz]; rfl⟩
          · exact absurd (show rm k < nI v from by rw [hr1]; exact nI_lt (by omega) (by omega)) hc
        | succ r ih =>
          intro v z hv hz
          refine tk_iload_n (pc := 68) d_C_walk_68 rfl ?_
          refine tk_aload_n (pc := 69) d_C_walk_69 rfl ?_
          refine tk_get (pc := 70) d_C_walk_70 f_C_12 rfl rfl ?_
          refine tk_get (pc := 73) d_C_walk_73 f_C_49 rfl rfl ?_
          refine tk_iload_n (pc := 76) d_C_walk_76 rfl ?_
          refine tk_iald (pc := 77) k d_C_walk_77 rfl rfl (by omega) (by decide) ?_
          refine tk_icmp_gt (pc := 78) (tgt := 113) d_C_walk_78 (by decide) (fun hc => ?_) (fun hc => ?_)
          · exact absurd (show rm k < nI v from hc) (by rw [hr1]; exact nI_nlt (by omega) (by omega))
          refine tk_aload_n (pc := 81) d_C_walk_81 rfl ?_
          refine tk_get (pc := 82) d_C_walk_82 f_C_26 rfl rfl ?_
          refine tk_if_ne (pc := 85) (tgt := 113) d_C_walk_85 (by decide) (fun he => ?_) (fun he => ?_)
          · exact tk_return (pc := 113) d_C_walk_113 rfl (Nat.le_of_ble_eq_true rfl) (Nat.le_of_ble_eq_true rfl) ⟨rfl, by rw [← hz]; show _ = wC g h p G rm sb t (if z.2.2 = 0 then _ else _); rw [if_neg he]⟩
          · have hz' : wkL (wkF G R sb m (k + 1)) sb k r (v + 1) (wkF G R sb m (k + 1) (if v = 0 then z.1 else adb z.1 sb k 12, z.2)) = wkF G R sb (m + 1) k x := by
              rw [← hz]
              show _ = if z.2.2 = 0 then _ else _
              rw [if_pos he]
            have tail : tk_T y_C_walk c_C_walk 3 none [] (1 + (m + 1)) 0 0 (fun _ => none) 0 0 (tk_det (.inl none) (wC g h p G rm sb t (wkF G R sb (m + 1) k x))) 100 [some (.ref 23), some (.int (nI k)), some (.int (nI v))] [] (wC g h p G rm sb t (if v = 0 then z.1 else adb z.1 sb k 12, z.2)) := by
              refine tk_aload_n (pc := 100) d_C_walk_100 rfl ?_
              refine tk_iload_n (pc := 101) d_C_walk_101 rfl ?_
              refine tk_iconst (pc := 102) (v := 1) d_C_walk_102 (by decide) ?_
              refine tk_iadd (pc := 103) d_C_walk_103 ?_
              rw [show nI k + 1 = nI (k + 1) from nI_1 k]
              refine tk_callVr (pc := 104) d_C_walk_104 l_C_30 k_C_walk rfl rfl rfl (IH (k + 1) (if v = 0 then z.1 else adb z.1 sb k 12, z.2) (by omega)) rfl (by omega) (Nat.le_of_ble_eq_true rfl) (Nat.le_of_ble_eq_true rfl) (Nat.le_of_ble_eq_true rfl) rfl rfl ?_
              refine tk_jinc2 (pc := 107) d_C_walk_107 rfl (by decide) ?_
              refine tk_goto (pc := 110) (tgt := 68) d_C_walk_110 (by decide) ?_
              exact tk_eq rfl (by rw [inc1]) rfl rfl (ih (v + 1) _ (by omega) hz')
            refine tk_iload_n (pc := 88) d_C_walk_88 rfl ?_
            refine tk_if_le (pc := 89) (tgt := 100) d_C_walk_89 (by decide) (fun hf => ?_) (fun hf => ?_)
            · have hv0 : v = 0 := by
                rcases Nat.eq_zero_or_pos v with q | q
                · exact q
                · exact absurd hf (nI_nle q (by omega))
              refine tk_eq rfl rfl rfl ?_ tail
              rw [if_pos hv0]
            · have hv0 : ¬ v = 0 := fun q => hf (by rw [q]; decide)
              refine tk_aload_n (pc := 92) d_C_walk_92 rfl ?_
              refine tk_get (pc := 93) d_C_walk_93 f_C_12 rfl rfl ?_
              refine tk_iload_n (pc := 96) d_C_walk_96 rfl ?_
              refine tk_callVr (pc := 97) d_C_walk_97 l_C_53 k_S_addBundle rfl rfl rfl (m_addC (f := z.1) (k := k) (by omega)) rfl (by omega) (Nat.le_of_ble_eq_true rfl) (Nat.le_of_ble_eq_true rfl) (Nat.le_of_ble_eq_true rfl) rfl rfl ?_
              refine tk_eq rfl rfl rfl ?_ tail
              rw [if_neg hv0]
      exact key (R k + 1) 0 (stl x.1 k 12, x.2) (by omega) rfl
    · exact absurd (nI_lt (by omega) (by omega)) hb
/-- bit k of the seen sets -/
def sbt (s : Nat → Int64) (k : Nat) : Int64 := ((s (k / 64)).toUInt64 >>> ((nI (k % 64)).toInt64.toUInt64 &&& Int64.toUInt64 63)).toInt64 &&& 1
/-- some seen set of the m from k on has none of the rules rl -/
def sch (s : Nat → Int64) (rl : Int32) : Nat → Nat → Int32
  | 0, _ => 0
  | m + 1, k => if nI k &&& rl = 0 ∧ ¬ sbt s k = 0 then 1 else sch s rl m (k + 1)
theorem m_some {g : sG} {h : sH} {p : sP} {S : sS} {s : Nat → Int64} {ah : Int32} {t : tk_W} {rl : Int32} : tk_M y_C_someChargeHolds w_C_someChargeHolds 0 0 0 [.ref 23, .int rl] (wd g h p (S, s, ah) t) (tk_det (.inl (some (.int (sch s rl 2048 0)))) (wd g h p (S, s, ah) t)) := by
  refine tk_M.of (lv := [some (.ref 23), some (.int rl), none]) (by decide) (Nat.le_of_ble_eq_true rfl) rfl ?_
  refine tk_iconst (pc := 0) (v := 0) d_C_someChargeHolds_0 (by decide) ?_
  refine tk_istore2 (pc := 1) d_C_someChargeHolds_1 rfl (by decide) ?_
  have key : ∀ (m k : Nat), k + m = 2048 → sch s rl m k = sch s rl 2048 0 → tk_T y_C_someChargeHolds c_C_someChargeHolds 3 (some .boolean) [] 0 0 0 (fun _ => none) 0 0 (tk_det (.inl (some (.int (sch s rl 2048 0)))) (wd g h p (S, s, ah) t)) 2 [some (.ref 23), some (.int rl), some (.int (nI k))] [] (wd g h p (S, s, ah) t) := by
    intro m
    induction m with
    | zero =>
      intro k hk hz
      obtain rfl : k = 2048 := by omega
      refine tk_iload_n (pc := 2) d_C_someChargeHolds_2 rfl ?_
      refine tk_sipush (pc := 3) (v := 2048) d_C_someChargeHolds_3 (by decide) ?_
      refine tk_icmp_ge (pc := 6) (tgt := 44) d_C_someChargeHolds_6 (by decide) (fun hb => ?_) (fun hb => ?_)
      · refine tk_iconst (pc := 44) (v := 0) d_C_someChargeHolds_44 (by decide) ?_
        exact tk_ireturn (pc := 45) d_C_someChargeHolds_45 rfl rfl (Nat.le_of_ble_eq_true rfl) (Nat.le_of_ble_eq_true rfl) ⟨by rw [← hz]; rfl, rfl⟩
      · exact absurd (show nI 2048 ≤ nI 2048 from by decide) hb
    | succ m ih =>
      intro k hk hz
      refine tk_iload_n (pc := 2) d_C_someChargeHolds_2 rfl ?_
      refine tk_sipush (pc := 3) (v := 2048) d_C_someChargeHolds_3 (by decide) ?_
      refine tk_icmp_ge (pc := 6) (tgt := 44) d_C_someChargeHolds_6 (by decide) (fun hb => ?_) (fun hb => ?_)
      · exact absurd ((nI_leI (a := 2048) (b := k) (by omega) (by omega)).mp hb) (by omega)
      have go : ¬ (nI k &&& rl = 0 ∧ ¬ sbt s k = 0) → tk_T y_C_someChargeHolds c_C_someChargeHolds 3 (some .boolean) [] 0 0 0 (fun _ => none) 0 0 (tk_det (.inl (some (.int (sch s rl 2048 0)))) (wd g h p (S, s, ah) t)) 38 [some (.ref 23), some (.int rl), some (.int (nI k))] [] (wd g h p (S, s, ah) t) := by
        intro hno
        refine tk_jinc2 (pc := 38) d_C_someChargeHolds_38 rfl (by decide) ?_
        refine tk_goto (pc := 41) (tgt := 2) d_C_someChargeHolds_41 (by decide) ?_
        refine tk_eq rfl (by rw [inc1]) rfl rfl (ih (k + 1) (by omega) ?_)
        rw [← hz]
        show _ = if nI k &&& rl = 0 ∧ ¬ sbt s k = 0 then 1 else sch s rl m (k + 1)
        rw [if_neg hno]
      refine tk_iload_n (pc := 9) d_C_someChargeHolds_9 rfl ?_
      refine tk_iload_n (pc := 10) d_C_someChargeHolds_10 rfl ?_
      refine tk_iand (pc := 11) d_C_someChargeHolds_11 ?_
      refine tk_if_ne (pc := 12) (tgt := 38) d_C_someChargeHolds_12 (by decide) (fun hc => ?_) (fun hc => ?_)
      · exact go (fun q => hc q.1)
      refine tk_aload_n (pc := 15) d_C_someChargeHolds_15 rfl ?_
      refine tk_get (pc := 16) d_C_someChargeHolds_16 f_C_18 rfl rfl ?_
      refine tk_iload_n (pc := 19) d_C_someChargeHolds_19 rfl ?_
      refine tk_bipush (pc := 20) (v := 64) d_C_someChargeHolds_20 (by decide) ?_
      refine tk_idiv (pc := 22) d_C_someChargeHolds_22 (by decide) ?_
      rw [show nI k / 64 = nI (k / 64) from pk_div (by omega) (by decide) (by decide)]
      refine tk_lald (pc := 23) (k/64) d_C_someChargeHolds_23 rfl rfl (by omega) (by decide) ?_
      refine tk_iload_n (pc := 24) d_C_someChargeHolds_24 rfl ?_
      refine tk_bipush (pc := 25) (v := 64) d_C_someChargeHolds_25 (by decide) ?_
      refine tk_irem (pc := 27) d_C_someChargeHolds_27 (by decide) ?_
      rw [show nI k - nI k / 64 * 64 = nI (k % 64) from pk_rem (d := 64) (by omega) (by decide) (by decide)]
      refine tk_lushr (pc := 28) d_C_someChargeHolds_28 ?_
      refine tk_lconst (pc := 29) (v := 1) d_C_someChargeHolds_29 (by decide) ?_
      refine tk_land (pc := 30) d_C_someChargeHolds_30 ?_
      refine tk_lconst (pc := 31) (v := 0) d_C_someChargeHolds_31 (by decide) ?_
      refine tk_lcmp (pc := 32) d_C_someChargeHolds_32 ?_
      refine tk_if_eq (pc := 33) (tgt := 38) d_C_someChargeHolds_33 (by decide) (fun he => ?_) (fun he => ?_)
      · exact go (fun q => q.2 ((lg_cmp_eq _ _).mp he))
      · refine tk_iconst (pc := 36) (v := 1) d_C_someChargeHolds_36 (by decide) ?_
        exact tk_ireturn (pc := 37) d_C_someChargeHolds_37 rfl rfl (Nat.le_of_ble_eq_true rfl) (Nat.le_of_ble_eq_true rfl) ⟨by rw [← hz]; show _ = Sum.inl (some (Value.int (if nI k &&& rl = 0 ∧ ¬ sbt s k = 0 then 1 else sch s rl m (k + 1)))); rw [if_pos ⟨hc, fun q => he ((lg_cmp_eq _ _).mpr q)⟩], rfl⟩
  exact key 2048 0 (by omega) rfl
def zfl (s : Nat → Int64) (i : Nat) : Nat → Int64 := fun j => if j < i then 0 else s j
theorem zfl_0 (s : Nat → Int64) : zfl s 0 = s := by
  funext j; simp only [zfl]; rw [if_neg (by omega)]
theorem zfl_s (s : Nat → Int64) (i : Nat) : vp_updL (zfl s i) i 0 = zfl s (i + 1) := by
  funext j
  simp only [vp_updL, zfl]
  by_cases h1 : j = i
  · subst h1; rw [if_pos rfl, if_pos (by omega)]
  · rw [if_neg h1]
    by_cases h2 : j < i
    · rw [if_pos h2, if_pos (by omega)]
    · rw [if_neg h2, if_neg (by omega)]
def lft (s : Nat → Int64) : Nat → Int32
  | 0 => 2047
  | i + 1 => if sch s (lft s i &&& ((1 : Int32) <<< (nI i &&& 31) ^^^ -1)) 2048 0 = 0 then lft s i &&& ((1 : Int32) <<< (nI i &&& 31) ^^^ -1) else lft s i
/-- what find leaves behind -/
def fndW (gn : Nat) (gt : Ar × Ar × Ar × Ar × Ar × Ar) (h : sH) (R : Nat → Nat) (ht : Nat) (sb f : Ar) (s : Nat → Int64) : sW := wkF gn R (pbf (nI gn, gt) h ht sb gn) gn 0 (ldR f h ht, zfl s 32, 0)
set_option maxHeartbeats 1000000 in
theorem m_find {gn : Nat} {gt : Ar × Ar × Ar × Ar × Ar × Ar} {h : sH} {p : sP} {t : tk_W} {sn : Int32} {sr sb f : Ar} {s : Nat → Int64} {ah : Int32} {R : Nat → Nat} {ht : Nat} (hg : gn < 6) (hh : ht < 4) (hR : ∀ k, k < gn → rmin (nI gn, gt) k = nI (R k) ∧ R k < 100) :
    tk_M y_C_find w_C_find 8 0 0 [.ref 23, .ref 1, .ref 8, .int (nI ht)] (wd (nI gn, gt) h p ((sn, sr, sb, f), s, ah) t) (tk_det (.inl (some (.int (if (fndW gn gt h R ht sb f s).2.2 = 0 then lft (fndW gn gt h R ht sb f s).2.1 11 else 0)))) (wC (nI gn, gt) h p gn (rmf (nI gn, gt) sr gn) (pbf (nI gn, gt) h ht sb gn) t (fndW gn gt h R ht sb f s))) := by
  refine tk_M.of (lv := [some (.ref 23), some (.ref 1), some (.ref 8), some (.int (nI ht)), none, none, none]) (by decide) (Nat.le_of_ble_eq_true rfl) rfl ?_
  refine tk_aload_n (pc := 0) d_C_find_0 rfl ?_
  refine tk_get (pc := 1) d_C_find_1 f_C_12 rfl rfl ?_
  refine tk_aload_n (pc := 4) d_C_find_4 rfl ?_
  refine tk_aload_n (pc := 5) d_C_find_5 rfl ?_
  refine tk_iload_n (pc := 6) d_C_find_6 rfl ?_
  refine tk_callVr (pc := 7) d_C_find_7 l_C_22 k_S_load rfl rfl rfl (m_loadC (gn := gn) (gt := gt) (f := f) (ht := ht) hg hh) rfl (by omega) (Nat.le_of_ble_eq_true rfl) (Nat.le_of_ble_eq_true rfl) (Nat.le_of_ble_eq_true rfl) rfl rfl ?_
  refine tk_iconst (pc := 10) (v := 0) d_C_find_10 (by decide) ?_
  refine tk_istore4 (pc := 11) d_C_find_11 rfl (by decide) ?_
  generalize hX : fndW gn gt h R ht sb f s = X
  have tail : tk_T y_C_find c_C_find 7 (some .int) [] 8 0 0 (fun _ => none) 0 0 (tk_det (.inl (some (.int (if X.2.2 = 0 then lft X.2.1 11 else 0)))) (wC (nI gn, gt) h p gn (rmf (nI gn, gt) sr gn) (pbf (nI gn, gt) h ht sb gn) t X)) 47 [some (.ref 23), some (.ref 1), some (.ref 8), some (.int (nI ht)), some (.int (nI 32)), none, none] [] (wC (nI gn, gt) h p gn (rmf (nI gn, gt) sr gn) (pbf (nI gn, gt) h ht sb gn) t X) := by
    refine tk_aload_n (pc := 47) d_C_find_47 rfl ?_
    refine tk_get (pc := 48) d_C_find_48 f_C_26 rfl rfl ?_
    refine tk_if_eq (pc := 51) (tgt := 56) d_C_find_51 (by decide) (fun hb => ?_) (fun hb => ?_)
    · refine tk_sipush (pc := 56) (v := 2047) d_C_find_56 (by decide) ?_
      refine tk_istore4 (pc := 59) d_C_find_59 rfl (by decide) ?_
      refine tk_iconst (pc := 61) (v := 0) d_C_find_61 (by decide) ?_
      refine tk_istore5 (pc := 62) d_C_find_62 rfl (by decide) ?_
      have lp : ∀ (m i : Nat) (o6 : Option Value), i + m = 11 → tk_T y_C_find c_C_find 7 (some .int) [] 8 0 0 (fun _ => none) 0 0 (tk_det (.inl (some (.int (if X.2.2 = 0 then lft X.2.1 11 else 0)))) (wC (nI gn, gt) h p gn (rmf (nI gn, gt) sr gn) (pbf (nI gn, gt) h ht sb gn) t X)) 64 [some (.ref 23), some (.ref 1), some (.ref 8), some (.int (nI ht)), some (.int (lft X.2.1 i)), some (.int (nI i)), o6] [] (wC (nI gn, gt) h p gn (rmf (nI gn, gt) sr gn) (pbf (nI gn, gt) h ht sb gn) t X) := by
        intro m
        induction m with
        | zero =>
          intro i o6 hi
          obtain rfl : i = 11 := by omega
          refine tk_iload (pc := 64) d_C_find_64 rfl ?_
          refine tk_bipush (pc := 66) (v := 11) d_C_find_66 (by decide) ?_
          refine tk_icmp_ge (pc := 68) (tgt := 101) d_C_find_68 (by decide) (fun hc => ?_) (fun hc => ?_)
          · refine tk_iload (pc := 101) d_C_find_101 rfl ?_
            exact tk_ireturn (pc := 103) d_C_find_103 rfl rfl (Nat.le_of_ble_eq_true rfl) (Nat.le_of_ble_eq_true rfl) ⟨by rw [if_pos hb], rfl⟩
          · exact absurd (show nI 11 ≤ nI 11 from by decide) hc
        | succ m ih =>
          intro i o6 hi
          refine tk_iload (pc := 64) d_C_find_64 rfl ?_
          refine tk_bipush (pc := 66) (v := 11) d_C_find_66 (by decide) ?_
          refine tk_icmp_ge (pc := 68) (tgt := 101) d_C_find_68 (by decide) (fun hc => ?_) (fun hc => ?_)
          · exact absurd ((nI_leI (a := 11) (b := i) (by omega) (by omega)).mp hc) (by omega)
          refine tk_iload (pc := 71) d_C_find_71 rfl ?_
          refine tk_iconst (pc := 73) (v := 1) d_C_find_73 (by decide) ?_
          refine tk_iload (pc := 74) d_C_find_74 rfl ?_
          refine tk_ishl (pc := 76) d_C_find_76 ?_
          refine tk_iconst (pc := 77) (v := -1) d_C_find_77 (by decide) ?_
          refine tk_ixor (pc := 78) d_C_find_78 ?_
          refine tk_iand (pc := 79) d_C_find_79 ?_
          refine tk_istore6 (pc := 80) d_C_find_80 rfl (by decide) ?_
          refine tk_aload_n (pc := 82) d_C_find_82 rfl ?_
          refine tk_iload (pc := 83) d_C_find_83 rfl ?_
          refine tk_callVr (pc := 85) d_C_find_85 l_C_34 k_C_someChargeHolds rfl rfl rfl (m_some (rl := lft X.2.1 i &&& ((1 : Int32) <<< (nI i &&& 31) ^^^ -1))) rfl (by omega) (Nat.le_of_ble_eq_true rfl) (Nat.le_of_ble_eq_true rfl) (Nat.le_of_ble_eq_true rfl) rfl rfl ?_
          refine tk_if_ne (pc := 88) (tgt := 95) d_C_find_88 (by decide) (fun he => ?_) (fun he => ?_)
          · refine tk_jinc5 (pc := 95) d_C_find_95 rfl (by decide) ?_
            refine tk_goto (pc := 98) (tgt := 64) d_C_find_98 (by decide) ?_
            refine tk_eq rfl ?_ rfl rfl (ih (i + 1) (some (.int (lft X.2.1 i &&& ((1 : Int32) <<< (nI i &&& 31) ^^^ -1)))) (by omega))
            rw [inc1]
            simp only [lft]
            rw [if_neg he]
          · refine tk_iload (pc := 91) d_C_find_91 rfl ?_
            refine tk_istore4 (pc := 93) d_C_find_93 rfl (by decide) ?_
            refine tk_jinc5 (pc := 95) d_C_find_95 rfl (by decide) ?_
            refine tk_goto (pc := 98) (tgt := 64) d_C_find_98 (by decide) ?_
            refine tk_eq rfl ?_ rfl rfl (ih (i + 1) (some (.int (lft X.2.1 i &&& ((1 : Int32) <<< (nI i &&& 31) ^^^ -1)))) (by omega))
            rw [inc1]
            simp only [lft]
            rw [if_pos he]
      exact lp 11 0 none rfl
    · refine tk_iconst (pc := 54) (v := 0) d_C_find_54 (by decide) ?_
      exact tk_ireturn (pc := 55) d_C_find_55 rfl rfl (Nat.le_of_ble_eq_true rfl) (Nat.le_of_ble_eq_true rfl) ⟨by rw [if_neg hb], rfl⟩
  have lz : ∀ (m i : Nat), i + m = 32 → tk_T y_C_find c_C_find 7 (some .int) [] 8 0 0 (fun _ => none) 0 0 (tk_det (.inl (some (.int (if X.2.2 = 0 then lft X.2.1 11 else 0)))) (wC (nI gn, gt) h p gn (rmf (nI gn, gt) sr gn) (pbf (nI gn, gt) h ht sb gn) t X)) 13 [some (.ref 23), some (.ref 1), some (.ref 8), some (.int (nI ht)), some (.int (nI i)), none, none] [] (wd (nI gn, gt) h p ((nI gn, rmf (nI gn, gt) sr gn, pbf (nI gn, gt) h ht sb gn, ldR f h ht), zfl s i, ah) t) := by
    intro m
    induction m with
    | zero =>
      intro i hi
      obtain rfl : i = 32 := by omega
      refine tk_iload (pc := 13) d_C_find_13 rfl ?_
      refine tk_aload_n (pc := 15) d_C_find_15 rfl ?_
      refine tk_get (pc := 16) d_C_find_16 f_C_18 rfl rfl ?_
      refine tk_alen (pc := 19) d_C_find_19 rfl rfl rfl ?_
      refine tk_icmp_ge (pc := 20) (tgt := 37) d_C_find_20 (by decide) (fun hc => ?_) (fun hc => ?_)
      · refine tk_aload_n (pc := 37) d_C_find_37 rfl ?_
        refine tk_iconst (pc := 38) (v := 0) d_C_find_38 (by decide) ?_
        refine tk_put (pc := 39) d_C_find_39 f_C_26 p_C_2 rfl rfl rfl (Nat.le_of_ble_eq_true rfl) rfl ?_
        refine tk_aload_n (pc := 42) d_C_find_42 rfl ?_
        refine tk_iconst (pc := 43) (v := 0) d_C_find_43 (by decide) ?_
        refine tk_callVr (pc := 44) d_C_find_44 l_C_30 k_C_walk rfl rfl rfl (m_walk (G := gn) (R := R) (rm := rmf (nI gn, gt) sr gn) (sb := pbf (nI gn, gt) h ht sb gn) (g := (nI gn, gt)) (h := h) (p := p) (t := t) hg (fun k hk => by simp only [rmf]; rw [if_pos hk]; exact hR k hk) gn 0 (ldR f h ht, zfl s 32, 0) (by omega)) rfl (by omega) (Nat.le_of_ble_eq_true rfl) (Nat.le_of_ble_eq_true rfl) (Nat.le_of_ble_eq_true rfl) rfl rfl ?_
        refine tk_ww (wC (nI gn, gt) h p gn (rmf (nI gn, gt) sr gn) (pbf (nI gn, gt) h ht sb gn) t X) (by rw [← hX]; rfl) ?_
        exact tail
      · exact absurd (show nI 32 ≤ nI 32 from by decide) hc
    | succ m ih =>
      intro i hi
      refine tk_iload (pc := 13) d_C_find_13 rfl ?_
      refine tk_aload_n (pc := 15) d_C_find_15 rfl ?_
      refine tk_get (pc := 16) d_C_find_16 f_C_18 rfl rfl ?_
      refine tk_alen (pc := 19) d_C_find_19 rfl rfl rfl ?_
      refine tk_icmp_ge (pc := 20) (tgt := 37) d_C_find_20 (by decide) (fun hc => ?_) (fun hc => ?_)
      · exact absurd ((nI_leI (a := 32) (b := i) (by omega) (by omega)).mp hc) (by omega)
      refine tk_aload_n (pc := 23) d_C_find_23 rfl ?_
      refine tk_get (pc := 24) d_C_find_24 f_C_18 rfl rfl ?_
      refine tk_iload (pc := 27) d_C_find_27 rfl ?_
      refine tk_lconst (pc := 29) (v := 0) d_C_find_29 (by decide) ?_
      refine tk_last (pc := 30) i d_C_find_30 rfl rfl (by omega) (by decide) ?_
      refine tk_jinc4 (pc := 31) d_C_find_31 rfl (by decide) ?_
      refine tk_goto (pc := 34) (tgt := 13) d_C_find_34 (by decide) ?_
      refine tk_eq rfl ?_ rfl ?_ (ih (i + 1) (by omega))
      · rw [inc1]
      · rw [← zfl_s]; rfl
  exact tk_eq rfl rfl rfl (by rw [zfl_0]) (lz 32 0 rfl)
end
section
/-! ===== the public methods: goods and heats ===== -/
section PUB1
variable {h : sH} {p : sP} {c : sC} {t : tk_W} {gk gc gs gl ga gb : Ar} {n : Nat}
theorem m_good_full {k ct s : Int32} : tk_M y_CP_good w_CP_good 10 1 6 [.ref 0, .int k, .int ct, .int s] (wd (nI 5, gk, gc, gs, gl, ga, gb) h p c t) (tk_det (.inr eS) (wd (nI 5, gk, gc, gs, gl, ga, gb) h p c t)) := by
  refine tk_M.of (lv := [some (.ref 0), some (.int k), some (.int ct), some (.int s)]) (by decide) (Nat.le_of_ble_eq_true rfl) rfl ?_
  refine tk_aload_n (pc := 0) d_CP_good_0 rfl ?_
  refine tk_get (pc := 1) d_CP_good_1 f_CP_10 rfl rfl ?_
  refine tk_get (pc := 4) d_CP_good_4 f_CP_37 rfl rfl ?_
  refine tk_iconst (pc := 7) (v := 5) d_CP_good_7 (by decide) ?_
  refine tk_icmp_ge (pc := 8) (tgt := 15) d_CP_good_8 (by decide) (fun hb => ?_) (fun hb => ?_)
  · refine tk_iconst (pc := 15) (v := 0) d_CP_good_15 (by decide) ?_
    refine tk_callSx (pc := 16) d_CP_good_16 l_CP_41 k_CP_requireTurn (c_rt_no) rfl (by omega) (Nat.le_of_ble_eq_true rfl) (Nat.le_of_ble_eq_true rfl) (Nat.le_of_ble_eq_true rfl) rfl rfl (by simp) ?_
    exact ⟨rfl, rfl⟩
  · exact absurd (show (5 : Int32) ≤ nI 5 from by decide) hb
theorem m_good_bad {k ct s : Int32} (hn : n < 5) (hbad : (k < 1 ∨ 1000 < k) ∨ (ct < 0 ∨ 100000 < ct) ∨ (s < 0 ∨ 6 < s)) : tk_M y_CP_good w_CP_good 10 1 6 [.ref 0, .int k, .int ct, .int s] (wd (nI n, gk, gc, gs, gl, ga, gb) h p c t) (tk_det (.inr eA) (wd (nI n, gk, gc, gs, gl, ga, gb) h p c t)) := by
  refine tk_M.of (lv := [some (.ref 0), some (.int k), some (.int ct), some (.int s)]) (by decide) (Nat.le_of_ble_eq_true rfl) rfl ?_
  refine tk_aload_n (pc := 0) d_CP_good_0 rfl ?_
  refine tk_get (pc := 1) d_CP_good_1 f_CP_10 rfl rfl ?_
  refine tk_get (pc := 4) d_CP_good_4 f_CP_37 rfl rfl ?_
  refine tk_iconst (pc := 7) (v := 5) d_CP_good_7 (by decide) ?_
  refine tk_icmp_ge (pc := 8) (tgt := 15) d_CP_good_8 (by decide) (fun hb => ?_) (fun hb => ?_)
  · exact absurd hb (nI_ge hn (by decide))
  refine tk_iconst (pc := 11) (v := 1) d_CP_good_11 (by decide) ?_
  refine tk_goto (pc := 12) (tgt := 16) d_CP_good_12 (by decide) ?_
  refine tk_callSr (pc := 16) d_CP_good_16 l_CP_41 k_CP_requireTurn (c_rt_ok (b := 1) (by decide)) rfl (by omega) (Nat.le_of_ble_eq_true rfl) (Nat.le_of_ble_eq_true rfl) (Nat.le_of_ble_eq_true rfl) rfl rfl ?_
  refine tk_iload_n (pc := 19) d_CP_good_19 rfl ?_
  refine tk_iconst (pc := 20) (v := 1) d_CP_good_20 (by decide) ?_
  refine tk_sipush (pc := 21) (v := 1000) d_CP_good_21 (by decide) ?_
  by_cases h1 : k < 1 ∨ 1000 < k
  · refine tk_callSx (pc := 24) d_CP_good_24 l_CP_45 k_CP_requireRange (c_rr_no h1) rfl (by omega) (Nat.le_of_ble_eq_true rfl) (Nat.le_of_ble_eq_true rfl) (Nat.le_of_ble_eq_true rfl) rfl rfl (by simp) ?_
    exact ⟨rfl, rfl⟩
  refine tk_callSr (pc := 24) d_CP_good_24 l_CP_45 k_CP_requireRange (c_rr_ok (fun z => h1 (Or.inl z)) (fun z => h1 (Or.inr z))) rfl (by omega) (Nat.le_of_ble_eq_true rfl) (Nat.le_of_ble_eq_true rfl) (Nat.le_of_ble_eq_true rfl) rfl rfl ?_
  refine tk_iload_n (pc := 27) d_CP_good_27 rfl ?_
  refine tk_iconst (pc := 28) (v := 0) d_CP_good_28 (by decide) ?_
  refine tk_ldc (pc := 29) d_CP_good_29 q_CP_49 ?_
  by_cases h2 : ct < 0 ∨ 100000 < ct
  · refine tk_callSx (pc := 31) d_CP_good_31 l_CP_45 k_CP_requireRange (c_rr_no h2) rfl (by omega) (Nat.le_of_ble_eq_true rfl) (Nat.le_of_ble_eq_true rfl) (Nat.le_of_ble_eq_true rfl) rfl rfl (by simp) ?_
    exact ⟨rfl, rfl⟩
  refine tk_callSr (pc := 31) d_CP_good_31 l_CP_45 k_CP_requireRange (c_rr_ok (fun z => h2 (Or.inl z)) (fun z => h2 (Or.inr z))) rfl (by omega) (Nat.le_of_ble_eq_true rfl) (Nat.le_of_ble_eq_true rfl) (Nat.le_of_ble_eq_true rfl) rfl rfl ?_
  refine tk_iload_n (pc := 34) d_CP_good_34 rfl ?_
  refine tk_iconst (pc := 35) (v := 0) d_CP_good_35 (by decide) ?_
  refine tk_bipush (pc := 36) (v := 6) d_CP_good_36 (by decide) ?_
  refine tk_callSx (pc := 38) d_CP_good_38 l_CP_45 k_CP_requireRange (c_rr_no ((hbad.resolve_left h1).resolve_left h2)) rfl (by omega) (Nat.le_of_ble_eq_true rfl) (Nat.le_of_ble_eq_true rfl) (Nat.le_of_ble_eq_true rfl) rfl rfl (by simp) ?_
  exact ⟨rfl, rfl⟩
theorem m_good_ok {k ct s : Int32} (hn : n < 5) (h1 : ¬ (k < 1 ∨ 1000 < k)) (h2 : ¬ (ct < 0 ∨ 100000 < ct)) (h3 : ¬ (s < 0 ∨ 6 < s)) : tk_M y_CP_good w_CP_good 10 1 6 [.ref 0, .int k, .int ct, .int s] (wd (nI n, gk, gc, gs, gl, ga, gb) h p c t) (tk_det (.inl (some (.int (nI n)))) (wd (nI (n + 1), upd gk n k, upd gc n ct, upd gs n s, upd gl n 6, ga, gb) h p c t)) := by
  refine tk_M.of (lv := [some (.ref 0), some (.int k), some (.int ct), some (.int s)]) (by decide) (Nat.le_of_ble_eq_true rfl) rfl ?_
  refine tk_aload_n (pc := 0) d_CP_good_0 rfl ?_
  refine tk_get (pc := 1) d_CP_good_1 f_CP_10 rfl rfl ?_
  refine tk_get (pc := 4) d_CP_good_4 f_CP_37 rfl rfl ?_
  refine tk_iconst (pc := 7) (v := 5) d_CP_good_7 (by decide) ?_
  refine tk_icmp_ge (pc := 8) (tgt := 15) d_CP_good_8 (by decide) (fun hb => ?_) (fun hb => ?_)
  · exact absurd hb (nI_ge hn (by decide))
  refine tk_iconst (pc := 11) (v := 1) d_CP_good_11 (by decide) ?_
  refine tk_goto (pc := 12) (tgt := 16) d_CP_good_12 (by decide) ?_
  refine tk_callSr (pc := 16) d_CP_good_16 l_CP_41 k_CP_requireTurn (c_rt_ok (b := 1) (by decide)) rfl (by omega) (Nat.le_of_ble_eq_true rfl) (Nat.le_of_ble_eq_true rfl) (Nat.le_of_ble_eq_true rfl) rfl rfl ?_
  refine tk_iload_n (pc := 19) d_CP_good_19 rfl ?_
  refine tk_iconst (pc := 20) (v := 1) d_CP_good_20 (by decide) ?_
  refine tk_sipush (pc := 21) (v := 1000) d_CP_good_21 (by decide) ?_
  refine tk_callSr (pc := 24) d_CP_good_24 l_CP_45 k_CP_requireRange (c_rr_ok (fun z => h1 (Or.inl z)) (fun z => h1 (Or.inr z))) rfl (by omega) (Nat.le_of_ble_eq_true rfl) (Nat.le_of_ble_eq_true rfl) (Nat.le_of_ble_eq_true rfl) rfl rfl ?_
  refine tk_iload_n (pc := 27) d_CP_good_27 rfl ?_
  refine tk_iconst (pc := 28) (v := 0) d_CP_good_28 (by decide) ?_
  refine tk_ldc (pc := 29) d_CP_good_29 q_CP_49 ?_
  refine tk_callSr (pc := 31) d_CP_good_31 l_CP_45 k_CP_requireRange (c_rr_ok (fun z => h2 (Or.inl z)) (fun z => h2 (Or.inr z))) rfl (by omega) (Nat.le_of_ble_eq_true rfl) (Nat.le_of_ble_eq_true rfl) (Nat.le_of_ble_eq_true rfl) rfl rfl ?_
  refine tk_iload_n (pc := 34) d_CP_good_34 rfl ?_
  refine tk_iconst (pc := 35) (v := 0) d_CP_good_35 (by decide) ?_
  refine tk_bipush (pc := 36) (v := 6) d_CP_good_36 (by decide) ?_
  refine tk_callSr (pc := 38) d_CP_good_38 l_CP_45 k_CP_requireRange (c_rr_ok (fun z => h3 (Or.inl z)) (fun z => h3 (Or.inr z))) rfl (by omega) (Nat.le_of_ble_eq_true rfl) (Nat.le_of_ble_eq_true rfl) (Nat.le_of_ble_eq_true rfl) rfl rfl ?_
  refine tk_aload_n (pc := 41) d_CP_good_41 rfl ?_
  refine tk_get (pc := 42) d_CP_good_42 f_CP_10 rfl rfl ?_
  refine tk_iload_n (pc := 45) d_CP_good_45 rfl ?_
  refine tk_iload_n (pc := 46) d_CP_good_46 rfl ?_
  refine tk_iload_n (pc := 47) d_CP_good_47 rfl ?_
  refine tk_callVr (pc := 48) d_CP_good_48 l_CP_50 k_G_append rfl rfl rfl (m_G_append (k := k) (ct := ct) (s := s) hn) rfl (by omega) (Nat.le_of_ble_eq_true rfl) (Nat.le_of_ble_eq_true rfl) (Nat.le_of_ble_eq_true rfl) rfl rfl ?_
  exact tk_ireturn (pc := 51) d_CP_good_51 rfl rfl (Nat.le_of_ble_eq_true rfl) (Nat.le_of_ble_eq_true rfl) ⟨rfl, rfl⟩
theorem m_element_no {i e a b : Int32} (hi : (i < 0 ∨ ¬ i < nI n) ∨ (e < 0 ∨ ¬ e < 4)) : tk_M y_CP_element w_CP_element 10 1 6 [.ref 0, .int i, .int e, .int a, .int b] (wd (nI n, gk, gc, gs, gl, ga, gb) h p c t) (tk_det (.inr eI) (wd (nI n, gk, gc, gs, gl, ga, gb) h p c t)) := by
  refine tk_M.of (lv := [some (.ref 0), some (.int i), some (.int e), some (.int a), some (.int b)]) (by decide) (Nat.le_of_ble_eq_true rfl) rfl ?_
  refine tk_iload_n (pc := 0) d_CP_element_0 rfl ?_
  refine tk_aload_n (pc := 1) d_CP_element_1 rfl ?_
  refine tk_get (pc := 2) d_CP_element_2 f_CP_10 rfl rfl ?_
  refine tk_get (pc := 5) d_CP_element_5 f_CP_37 rfl rfl ?_
  by_cases h1 : i < 0 ∨ ¬ i < nI n
  · refine tk_callSx (pc := 8) d_CP_element_8 l_CP_54 k_CP_requireIndex (c_ri_no h1) rfl (by omega) (Nat.le_of_ble_eq_true rfl) (Nat.le_of_ble_eq_true rfl) (Nat.le_of_ble_eq_true rfl) rfl rfl (by simp) ?_
    exact ⟨rfl, rfl⟩
  refine tk_callSr (pc := 8) d_CP_element_8 l_CP_54 k_CP_requireIndex (c_ri_ok (fun z => h1 (Or.inl z)) (Classical.not_not.mp (fun z => h1 (Or.inr z)))) rfl (by omega) (Nat.le_of_ble_eq_true rfl) (Nat.le_of_ble_eq_true rfl) (Nat.le_of_ble_eq_true rfl) rfl rfl ?_
  refine tk_iload_n (pc := 11) d_CP_element_11 rfl ?_
  refine tk_iconst (pc := 12) (v := 4) d_CP_element_12 (by decide) ?_
  refine tk_callSx (pc := 13) d_CP_element_13 l_CP_54 k_CP_requireIndex (c_ri_no (hi.resolve_left h1)) rfl (by omega) (Nat.le_of_ble_eq_true rfl) (Nat.le_of_ble_eq_true rfl) (Nat.le_of_ble_eq_true rfl) rfl rfl (by simp) ?_
  exact ⟨rfl, rfl⟩
theorem m_element_bad {i e : Nat} {a b : Int32} (hi : i < n) (hn : n < 6) (he : e < 4) (hb : (a < 0 ∨ 10000 < a) ∨ (b < a ∨ 10000 < b)) : tk_M y_CP_element w_CP_element 10 1 6 [.ref 0, .int (nI i), .int (nI e), .int a, .int b] (wd (nI n, gk, gc, gs, gl, ga, gb) h p c t) (tk_det (.inr eA) (wd (nI n, gk, gc, gs, gl, ga, gb) h p c t)) := by
  refine tk_M.of (lv := [some (.ref 0), some (.int (nI i)), some (.int (nI e)), some (.int a), some (.int b)]) (by decide) (Nat.le_of_ble_eq_true rfl) rfl ?_
  refine tk_iload_n (pc := 0) d_CP_element_0 rfl ?_
  refine tk_aload_n (pc := 1) d_CP_element_1 rfl ?_
  refine tk_get (pc := 2) d_CP_element_2 f_CP_10 rfl rfl ?_
  refine tk_get (pc := 5) d_CP_element_5 f_CP_37 rfl rfl ?_
  refine tk_callSr (pc := 8) d_CP_element_8 l_CP_54 k_CP_requireIndex (c_ri_ok (nI_pos (by omega)) (nI_lt hi (by omega))) rfl (by omega) (Nat.le_of_ble_eq_true rfl) (Nat.le_of_ble_eq_true rfl) (Nat.le_of_ble_eq_true rfl) rfl rfl ?_
  refine tk_iload_n (pc := 11) d_CP_element_11 rfl ?_
  refine tk_iconst (pc := 12) (v := 4) d_CP_element_12 (by decide) ?_
  refine tk_callSr (pc := 13) d_CP_element_13 l_CP_54 k_CP_requireIndex (c_ri_ok (nI_pos (by omega)) (nI_lt (b := 4) he (by omega))) rfl (by omega) (Nat.le_of_ble_eq_true rfl) (Nat.le_of_ble_eq_true rfl) (Nat.le_of_ble_eq_true rfl) rfl rfl ?_
  refine tk_iload_n (pc := 16) d_CP_element_16 rfl ?_
  refine tk_iload (pc := 17) d_CP_element_17 rfl ?_
  refine tk_iconst (pc := 19) (v := 0) d_CP_element_19 (by decide) ?_
  refine tk_sipush (pc := 20) (v := 10000) d_CP_element_20 (by decide) ?_
  refine tk_callSx (pc := 23) d_CP_element_23 l_CP_58 k_CP_requireSpan (c_rs_no hb) rfl (by omega) (Nat.le_of_ble_eq_true rfl) (Nat.le_of_ble_eq_true rfl) (Nat.le_of_ble_eq_true rfl) rfl rfl (by simp) ?_
  exact ⟨rfl, rfl⟩
theorem m_element_ok {i e : Nat} {a b : Int32} (hi : i < n) (hn : n < 6) (he : e < 4) (h1 : ¬ a < 0) (h2 : ¬ 10000 < a) (h3 : ¬ b < a) (h4 : ¬ 10000 < b) : tk_M y_CP_element w_CP_element 10 1 6 [.ref 0, .int (nI i), .int (nI e), .int a, .int b] (wd (nI n, gk, gc, gs, gl, ga, gb) h p c t) (tk_det (.inl none) (wd (nI n, gk, gc, gs, gl, upd ga (i * 4 + e) a, upd gb (i * 4 + e) b) h p c t)) := by
  refine tk_M.of (lv := [some (.ref 0), some (.int (nI i)), some (.int (nI e)), some (.int a), some (.int b)]) (by decide) (Nat.le_of_ble_eq_true rfl) rfl ?_
  refine tk_iload_n (pc := 0) d_CP_element_0 rfl ?_
  refine tk_aload_n (pc := 1) d_CP_element_1 rfl ?_
  refine tk_get (pc := 2) d_CP_element_2 f_CP_10 rfl rfl ?_
  refine tk_get (pc := 5) d_CP_element_5 f_CP_37 rfl rfl ?_
  refine tk_callSr (pc := 8) d_CP_element_8 l_CP_54 k_CP_requireIndex (c_ri_ok (nI_pos (by omega)) (nI_lt hi (by omega))) rfl (by omega) (Nat.le_of_ble_eq_true rfl) (Nat.le_of_ble_eq_true rfl) (Nat.le_of_ble_eq_true rfl) rfl rfl ?_
  refine tk_iload_n (pc := 11) d_CP_element_11 rfl ?_
  refine tk_iconst (pc := 12) (v := 4) d_CP_element_12 (by decide) ?_
  refine tk_callSr (pc := 13) d_CP_element_13 l_CP_54 k_CP_requireIndex (c_ri_ok (nI_pos (by omega)) (nI_lt (b := 4) he (by omega))) rfl (by omega) (Nat.le_of_ble_eq_true rfl) (Nat.le_of_ble_eq_true rfl) (Nat.le_of_ble_eq_true rfl) rfl rfl ?_
  refine tk_iload_n (pc := 16) d_CP_element_16 rfl ?_
  refine tk_iload (pc := 17) d_CP_element_17 rfl ?_
  refine tk_iconst (pc := 19) (v := 0) d_CP_element_19 (by decide) ?_
  refine tk_sipush (pc := 20) (v := 10000) d_CP_element_20 (by decide) ?_
  refine tk_callSr (pc := 23) d_CP_element_23 l_CP_58 k_CP_requireSpan (c_rs_ok h1 h2 h3 h4) rfl (by omega) (Nat.le_of_ble_eq_true rfl) (Nat.le_of_ble_eq_true rfl) (Nat.le_of_ble_eq_true rfl) rfl rfl ?_
  refine tk_aload_n (pc := 26) d_CP_element_26 rfl ?_
  refine tk_get (pc := 27) d_CP_element_27 f_CP_10 rfl rfl ?_
  refine tk_get (pc := 30) d_CP_element_30 f_CP_62 rfl rfl ?_
  refine tk_iload_n (pc := 33) d_CP_element_33 rfl ?_
  refine tk_iconst (pc := 34) (v := 4) d_CP_element_34 (by decide) ?_
  refine tk_imul (pc := 35) d_CP_element_35 ?_
  refine tk_iload_n (pc := 36) d_CP_element_36 rfl ?_
  refine tk_iadd (pc := 37) d_CP_element_37 ?_
  refine tk_iload_n (pc := 38) d_CP_element_38 rfl ?_
  refine tk_iast (pc := 39) (i*4+e) d_CP_element_39 rfl (ixma i 4 e) (by omega) (by decide) ?_
  refine tk_aload_n (pc := 40) d_CP_element_40 rfl ?_
  refine tk_get (pc := 41) d_CP_element_41 f_CP_10 rfl rfl ?_
  refine tk_get (pc := 44) d_CP_element_44 f_CP_66 rfl rfl ?_
  refine tk_iload_n (pc := 47) d_CP_element_47 rfl ?_
  refine tk_iconst (pc := 48) (v := 4) d_CP_element_48 (by decide) ?_
  refine tk_imul (pc := 49) d_CP_element_49 ?_
  refine tk_iload_n (pc := 50) d_CP_element_50 rfl ?_
  refine tk_iadd (pc := 51) d_CP_element_51 ?_
  refine tk_iload (pc := 52) d_CP_element_52 rfl ?_
  refine tk_iast (pc := 54) (i*4+e) d_CP_element_54 rfl (ixma i 4 e) (by omega) (by decide) ?_
  exact tk_return (pc := 55) d_CP_element_55 rfl (Nat.le_of_ble_eq_true rfl) (Nat.le_of_ble_eq_true rfl) ⟨rfl, rfl⟩
theorem m_limit_no {i a : Int32} (hi : i < 0 ∨ ¬ i < nI n) : tk_M y_CP_limit w_CP_limit 10 1 6 [.ref 0, .int i, .int a] (wd (nI n, gk, gc, gs, gl, ga, gb) h p c t) (tk_det (.inr eI) (wd (nI n, gk, gc, gs, gl, ga, gb) h p c t)) := by
  refine tk_M.of (lv := [some (.ref 0), some (.int i), some (.int a)]) (by decide) (Nat.le_of_ble_eq_true rfl) rfl ?_
  refine tk_iload_n (pc := 0) d_CP_limit_0 rfl ?_
  refine tk_aload_n (pc := 1) d_CP_limit_1 rfl ?_
  refine tk_get (pc := 2) d_CP_limit_2 f_CP_10 rfl rfl ?_
  refine tk_get (pc := 5) d_CP_limit_5 f_CP_37 rfl rfl ?_
  refine tk_callSx (pc := 8) d_CP_limit_8 l_CP_54 k_CP_requireIndex (c_ri_no hi) rfl (by omega) (Nat.le_of_ble_eq_true rfl) (Nat.le_of_ble_eq_true rfl) (Nat.le_of_ble_eq_true rfl) rfl rfl (by simp) ?_
  exact ⟨rfl, rfl⟩
theorem m_limit_bad {i : Nat} {a : Int32} (hi : i < n) (hn : n < 6) (hb : a < 0 ∨ 6 < a) : tk_M y_CP_limit w_CP_limit 10 1 6 [.ref 0, .int (nI i), .int a] (wd (nI n, gk, gc, gs, gl, ga, gb) h p c t) (tk_det (.inr eA) (wd (nI n, gk, gc, gs, gl, ga, gb) h p c t)) := by
  refine tk_M.of (lv := [some (.ref 0), some (.int (nI i)), some (.int a)]) (by decide) (Nat.le_of_ble_eq_true rfl) rfl ?_
  refine tk_iload_n (pc := 0) d_CP_limit_0 rfl ?_
  refine tk_aload_n (pc := 1) d_CP_limit_1 rfl ?_
  refine tk_get (pc := 2) d_CP_limit_2 f_CP_10 rfl rfl ?_
  refine tk_get (pc := 5) d_CP_limit_5 f_CP_37 rfl rfl ?_
  refine tk_callSr (pc := 8) d_CP_limit_8 l_CP_54 k_CP_requireIndex (c_ri_ok (nI_pos (by omega)) (nI_lt hi (by omega))) rfl (by omega) (Nat.le_of_ble_eq_true rfl) (Nat.le_of_ble_eq_true rfl) (Nat.le_of_ble_eq_true rfl) rfl rfl ?_
  refine tk_iload_n (pc := 11) d_CP_limit_11 rfl ?_
  refine tk_iconst (pc := 12) (v := 0) d_CP_limit_12 (by decide) ?_
  refine tk_bipush (pc := 13) (v := 6) d_CP_limit_13 (by decide) ?_
  refine tk_callSx (pc := 15) d_CP_limit_15 l_CP_45 k_CP_requireRange (c_rr_no hb) rfl (by omega) (Nat.le_of_ble_eq_true rfl) (Nat.le_of_ble_eq_true rfl) (Nat.le_of_ble_eq_true rfl) rfl rfl (by simp) ?_
  exact ⟨rfl, rfl⟩
theorem m_limit_ok {i : Nat} {a : Int32} (hi : i < n) (hn : n < 6) (hb : ¬ (a < 0 ∨ 6 < a)) : tk_M y_CP_limit w_CP_limit 10 1 6 [.ref 0, .int (nI i), .int a] (wd (nI n, gk, gc, gs, gl, ga, gb) h p c t) (tk_det (.inl none) (wd (nI n, gk, gc, gs, upd gl i a, ga, gb) h p c t)) := by
  refine tk_M.of (lv := [some (.ref 0), some (.int (nI i)), some (.int a)]) (by decide) (Nat.le_of_ble_eq_true rfl) rfl ?_
  refine tk_iload_n (pc := 0) d_CP_limit_0 rfl ?_
  refine tk_aload_n (pc := 1) d_CP_limit_1 rfl ?_
  refine tk_get (pc := 2) d_CP_limit_2 f_CP_10 rfl rfl ?_
  refine tk_get (pc := 5) d_CP_limit_5 f_CP_37 rfl rfl ?_
  refine tk_callSr (pc := 8) d_CP_limit_8 l_CP_54 k_CP_requireIndex (c_ri_ok (nI_pos (by omega)) (nI_lt hi (by omega))) rfl (by omega) (Nat.le_of_ble_eq_true rfl) (Nat.le_of_ble_eq_true rfl) (Nat.le_of_ble_eq_true rfl) rfl rfl ?_
  refine tk_iload_n (pc := 11) d_CP_limit_11 rfl ?_
  refine tk_iconst (pc := 12) (v := 0) d_CP_limit_12 (by decide) ?_
  refine tk_bipush (pc := 13) (v := 6) d_CP_limit_13 (by decide) ?_
  refine tk_callSr (pc := 15) d_CP_limit_15 l_CP_45 k_CP_requireRange (c_rr_ok (fun z => hb (Or.inl z)) (fun z => hb (Or.inr z))) rfl (by omega) (Nat.le_of_ble_eq_true rfl) (Nat.le_of_ble_eq_true rfl) (Nat.le_of_ble_eq_true rfl) rfl rfl ?_
  refine tk_aload_n (pc := 18) d_CP_limit_18 rfl ?_
  refine tk_get (pc := 19) d_CP_limit_19 f_CP_10 rfl rfl ?_
  refine tk_get (pc := 22) d_CP_limit_22 f_CP_69 rfl rfl ?_
  refine tk_iload_n (pc := 25) d_CP_limit_25 rfl ?_
  refine tk_iload_n (pc := 26) d_CP_limit_26 rfl ?_
  refine tk_iast (pc := 27) i d_CP_limit_27 rfl rfl (by omega) (by decide) ?_
  exact tk_return (pc := 28) d_CP_limit_28 rfl (Nat.le_of_ble_eq_true rfl) (Nat.le_of_ble_eq_true rfl) ⟨rfl, rfl⟩
theorem m_arrive_no {i a : Int32} (hi : i < 0 ∨ ¬ i < nI n) : tk_M y_CP_arrive w_CP_arrive 10 1 6 [.ref 0, .int i, .int a] (wd (nI n, gk, gc, gs, gl, ga, gb) h p c t) (tk_det (.inr eI) (wd (nI n, gk, gc, gs, gl, ga, gb) h p c t)) := by
  refine tk_M.of (lv := [some (.ref 0), some (.int i), some (.int a)]) (by decide) (Nat.le_of_ble_eq_true rfl) rfl ?_
  refine tk_iload_n (pc := 0) d_CP_arrive_0 rfl ?_
  refine tk_aload_n (pc := 1) d_CP_arrive_1 rfl ?_
  refine tk_get (pc := 2) d_CP_arrive_2 f_CP_10 rfl rfl ?_
  refine tk_get (pc := 5) d_CP_arrive_5 f_CP_37 rfl rfl ?_
  refine tk_callSx (pc := 8) d_CP_arrive_8 l_CP_54 k_CP_requireIndex (c_ri_no hi) rfl (by omega) (Nat.le_of_ble_eq_true rfl) (Nat.le_of_ble_eq_true rfl) (Nat.le_of_ble_eq_true rfl) rfl rfl (by simp) ?_
  exact ⟨rfl, rfl⟩
theorem m_arrive_bad {i : Nat} {a : Int32} (hi : i < n) (hn : n < 6) (hb : a < 0) : tk_M y_CP_arrive w_CP_arrive 10 1 6 [.ref 0, .int (nI i), .int a] (wd (nI n, gk, gc, gs, gl, ga, gb) h p c t) (tk_det (.inr eA) (wd (nI n, gk, gc, gs, gl, ga, gb) h p c t)) := by
  refine tk_M.of (lv := [some (.ref 0), some (.int (nI i)), some (.int a)]) (by decide) (Nat.le_of_ble_eq_true rfl) rfl ?_
  refine tk_iload_n (pc := 0) d_CP_arrive_0 rfl ?_
  refine tk_aload_n (pc := 1) d_CP_arrive_1 rfl ?_
  refine tk_get (pc := 2) d_CP_arrive_2 f_CP_10 rfl rfl ?_
  refine tk_get (pc := 5) d_CP_arrive_5 f_CP_37 rfl rfl ?_
  refine tk_callSr (pc := 8) d_CP_arrive_8 l_CP_54 k_CP_requireIndex (c_ri_ok (nI_pos (by omega)) (nI_lt hi (by omega))) rfl (by omega) (Nat.le_of_ble_eq_true rfl) (Nat.le_of_ble_eq_true rfl) (Nat.le_of_ble_eq_true rfl) rfl rfl ?_
  refine tk_iload_n (pc := 11) d_CP_arrive_11 rfl ?_
  refine tk_if_lt (pc := 12) (tgt := 19) d_CP_arrive_12 (by decide) (fun hc => ?_) (fun hc => ?_)
  · refine tk_iconst (pc := 19) (v := 0) d_CP_arrive_19 (by decide) ?_
    refine tk_callSx (pc := 20) d_CP_arrive_20 l_CP_72 k_CP_requireArgument (c_ra_no) rfl (by omega) (Nat.le_of_ble_eq_true rfl) (Nat.le_of_ble_eq_true rfl) (Nat.le_of_ble_eq_true rfl) rfl rfl (by simp) ?_
    exact ⟨rfl, rfl⟩
  · exact absurd hb hc
theorem m_arrive_much {i : Nat} {a : Int32} (hi : i < n) (hn : n < 6) (ha : ¬ a < 0) (hb : 6 - gs i < a) : tk_M y_CP_arrive w_CP_arrive 10 1 6 [.ref 0, .int (nI i), .int a] (wd (nI n, gk, gc, gs, gl, ga, gb) h p c t) (tk_det (.inr eU) (wd (nI n, gk, gc, gs, gl, ga, gb) h p c t)) := by
  refine tk_M.of (lv := [some (.ref 0), some (.int (nI i)), some (.int a)]) (by decide) (Nat.le_of_ble_eq_true rfl) rfl ?_
  refine tk_iload_n (pc := 0) d_CP_arrive_0 rfl ?_
  refine tk_aload_n (pc := 1) d_CP_arrive_1 rfl ?_
  refine tk_get (pc := 2) d_CP_arrive_2 f_CP_10 rfl rfl ?_
  refine tk_get (pc := 5) d_CP_arrive_5 f_CP_37 rfl rfl ?_
  refine tk_callSr (pc := 8) d_CP_arrive_8 l_CP_54 k_CP_requireIndex (c_ri_ok (nI_pos (by omega)) (nI_lt hi (by omega))) rfl (by omega) (Nat.le_of_ble_eq_true rfl) (Nat.le_of_ble_eq_true rfl) (Nat.le_of_ble_eq_true rfl) rfl rfl ?_
  refine tk_iload_n (pc := 11) d_CP_arrive_11 rfl ?_
  refine tk_if_lt (pc := 12) (tgt := 19) d_CP_arrive_12 (by decide) (fun hc => ?_) (fun hc => ?_)
  · exact absurd hc ha
  refine tk_iconst (pc := 15) (v := 1) d_CP_arrive_15 (by decide) ?_
  refine tk_goto (pc := 16) (tgt := 20) d_CP_arrive_16 (by decide) ?_
  refine tk_callSr (pc := 20) d_CP_arrive_20 l_CP_72 k_CP_requireArgument (c_ra_ok (b := 1) (by decide)) rfl (by omega) (Nat.le_of_ble_eq_true rfl) (Nat.le_of_ble_eq_true rfl) (Nat.le_of_ble_eq_true rfl) rfl rfl ?_
  refine tk_iload_n (pc := 23) d_CP_arrive_23 rfl ?_
  refine tk_bipush (pc := 24) (v := 6) d_CP_arrive_24 (by decide) ?_
  refine tk_aload_n (pc := 26) d_CP_arrive_26 rfl ?_
  refine tk_get (pc := 27) d_CP_arrive_27 f_CP_10 rfl rfl ?_
  refine tk_get (pc := 30) d_CP_arrive_30 f_CP_75 rfl rfl ?_
  refine tk_iload_n (pc := 33) d_CP_arrive_33 rfl ?_
  refine tk_iald (pc := 34) i d_CP_arrive_34 rfl rfl (by omega) (by decide) ?_
  refine tk_isub (pc := 35) d_CP_arrive_35 ?_
  refine tk_icmp_gt (pc := 36) (tgt := 43) d_CP_arrive_36 (by decide) (fun hd => ?_) (fun hd => ?_)
  · refine tk_iconst (pc := 43) (v := 0) d_CP_arrive_43 (by decide) ?_
    refine tk_callSx (pc := 44) d_CP_arrive_44 l_CP_78 k_CP_requireMeaning (c_rm_no) rfl (by omega) (Nat.le_of_ble_eq_true rfl) (Nat.le_of_ble_eq_true rfl) (Nat.le_of_ble_eq_true rfl) rfl rfl (by simp) ?_
    exact ⟨rfl, rfl⟩
  · exact absurd hb hd
theorem m_arrive_ok {i : Nat} {a : Int32} (hi : i < n) (hn : n < 6) (ha : ¬ a < 0) (hb : ¬ 6 - gs i < a) : tk_M y_CP_arrive w_CP_arrive 10 1 6 [.ref 0, .int (nI i), .int a] (wd (nI n, gk, gc, gs, gl, ga, gb) h p c t) (tk_det (.inl (some (.int (gs i + a)))) (wd (nI n, gk, gc, upd gs i (gs i + a), gl, ga, gb) h p c t)) := by
  refine tk_M.of (lv := [some (.ref 0), some (.int (nI i)), some (.int a)]) (by decide) (Nat.le_of_ble_eq_true rfl) rfl ?_
  refine tk_iload_n (pc := 0) d_CP_arrive_0 rfl ?_
  refine tk_aload_n (pc := 1) d_CP_arrive_1 rfl ?_
  refine tk_get (pc := 2) d_CP_arrive_2 f_CP_10 rfl rfl ?_
  refine tk_get (pc := 5) d_CP_arrive_5 f_CP_37 rfl rfl ?_
  refine tk_callSr (pc := 8) d_CP_arrive_8 l_CP_54 k_CP_requireIndex (c_ri_ok (nI_pos (by omega)) (nI_lt hi (by omega))) rfl (by omega) (Nat.le_of_ble_eq_true rfl) (Nat.le_of_ble_eq_true rfl) (Nat.le_of_ble_eq_true rfl) rfl rfl ?_
  refine tk_iload_n (pc := 11) d_CP_arrive_11 rfl ?_
  refine tk_if_lt (pc := 12) (tgt := 19) d_CP_arrive_12 (by decide) (fun hc => ?_) (fun hc => ?_)
  · exact absurd hc ha
  refine tk_iconst (pc := 15) (v := 1) d_CP_arrive_15 (by decide) ?_
  refine tk_goto (pc := 16) (tgt := 20) d_CP_arrive_16 (by decide) ?_
  refine tk_callSr (pc := 20) d_CP_arrive_20 l_CP_72 k_CP_requireArgument (c_ra_ok (b := 1) (by decide)) rfl (by omega) (Nat.le_of_ble_eq_true rfl) (Nat.le_of_ble_eq_true rfl) (Nat.le_of_ble_eq_true rfl) rfl rfl ?_
  refine tk_iload_n (pc := 23) d_CP_arrive_23 rfl ?_
  refine tk_bipush (pc := 24) (v := 6) d_CP_arrive_24 (by decide) ?_
  refine tk_aload_n (pc := 26) d_CP_arrive_26 rfl ?_
  refine tk_get (pc := 27) d_CP_arrive_27 f_CP_10 rfl rfl ?_
  refine tk_get (pc := 30) d_CP_arrive_30 f_CP_75 rfl rfl ?_
  refine tk_iload_n (pc := 33) d_CP_arrive_33 rfl ?_
  refine tk_iald (pc := 34) i d_CP_arrive_34 rfl rfl (by omega) (by decide) ?_
  refine tk_isub (pc := 35) d_CP_arrive_35 ?_
  refine tk_icmp_gt (pc := 36) (tgt := 43) d_CP_arrive_36 (by decide) (fun hd => ?_) (fun hd => ?_)
  · exact absurd hd hb
  refine tk_iconst (pc := 39) (v := 1) d_CP_arrive_39 (by decide) ?_
  refine tk_goto (pc := 40) (tgt := 44) d_CP_arrive_40 (by decide) ?_
  refine tk_callSr (pc := 44) d_CP_arrive_44 l_CP_78 k_CP_requireMeaning (c_rm_ok (b := 1) (by decide)) rfl (by omega) (Nat.le_of_ble_eq_true rfl) (Nat.le_of_ble_eq_true rfl) (Nat.le_of_ble_eq_true rfl) rfl rfl ?_
  refine tk_aload_n (pc := 47) d_CP_arrive_47 rfl ?_
  refine tk_get (pc := 48) d_CP_arrive_48 f_CP_10 rfl rfl ?_
  refine tk_get (pc := 51) d_CP_arrive_51 f_CP_75 rfl rfl ?_
  refine tk_iload_n (pc := 54) d_CP_arrive_54 rfl ?_
  refine tk_dup2 (pc := 55) d_CP_arrive_55 rfl rfl ?_
  refine tk_iald (pc := 56) i d_CP_arrive_56 rfl rfl (by omega) (by decide) ?_
  refine tk_iload_n (pc := 57) d_CP_arrive_57 rfl ?_
  refine tk_iadd (pc := 58) d_CP_arrive_58 ?_
  refine tk_iast (pc := 59) i d_CP_arrive_59 rfl rfl (by omega) (by decide) ?_
  refine tk_aload_n (pc := 60) d_CP_arrive_60 rfl ?_
  refine tk_get (pc := 61) d_CP_arrive_61 f_CP_10 rfl rfl ?_
  refine tk_get (pc := 64) d_CP_arrive_64 f_CP_75 rfl rfl ?_
  refine tk_iload_n (pc := 67) d_CP_arrive_67 rfl ?_
  refine tk_iald (pc := 68) i d_CP_arrive_68 rfl rfl (by omega) (by decide) ?_
  exact tk_ireturn (pc := 69) d_CP_arrive_69 rfl rfl (Nat.le_of_ble_eq_true rfl) (Nat.le_of_ble_eq_true rfl) ⟨by rw [pk_us], rfl⟩
theorem m_stock_no {i : Int32} (hi : i < 0 ∨ ¬ i < nI n) : tk_M y_CP_stock w_CP_stock 10 1 6 [.ref 0, .int i] (wd (nI n, gk, gc, gs, gl, ga, gb) h p c t) (tk_det (.inr eI) (wd (nI n, gk, gc, gs, gl, ga, gb) h p c t)) := by
  refine tk_M.of (lv := [some (.ref 0), some (.int i)]) (by decide) (Nat.le_of_ble_eq_true rfl) rfl ?_
  refine tk_iload_n (pc := 0) d_CP_stock_0 rfl ?_
  refine tk_aload_n (pc := 1) d_CP_stock_1 rfl ?_
  refine tk_get (pc := 2) d_CP_stock_2 f_CP_10 rfl rfl ?_
  refine tk_get (pc := 5) d_CP_stock_5 f_CP_37 rfl rfl ?_
  refine tk_callSx (pc := 8) d_CP_stock_8 l_CP_54 k_CP_requireIndex (c_ri_no hi) rfl (by omega) (Nat.le_of_ble_eq_true rfl) (Nat.le_of_ble_eq_true rfl) (Nat.le_of_ble_eq_true rfl) rfl rfl (by simp) ?_
  exact ⟨rfl, rfl⟩
theorem m_stock_ok {i : Nat} (hi : i < n) (hn : n < 6) : tk_M y_CP_stock w_CP_stock 10 1 6 [.ref 0, .int (nI i)] (wd (nI n, gk, gc, gs, gl, ga, gb) h p c t) (tk_det (.inl (some (.int (gs i)))) (wd (nI n, gk, gc, gs, gl, ga, gb) h p c t)) := by
  refine tk_M.of (lv := [some (.ref 0), some (.int (nI i))]) (by decide) (Nat.le_of_ble_eq_true rfl) rfl ?_
  refine tk_iload_n (pc := 0) d_CP_stock_0 rfl ?_
  refine tk_aload_n (pc := 1) d_CP_stock_1 rfl ?_
  refine tk_get (pc := 2) d_CP_stock_2 f_CP_10 rfl rfl ?_
  refine tk_get (pc := 5) d_CP_stock_5 f_CP_37 rfl rfl ?_
  refine tk_callSr (pc := 8) d_CP_stock_8 l_CP_54 k_CP_requireIndex (c_ri_ok (nI_pos (by omega)) (nI_lt hi (by omega))) rfl (by omega) (Nat.le_of_ble_eq_true rfl) (Nat.le_of_ble_eq_true rfl) (Nat.le_of_ble_eq_true rfl) rfl rfl ?_
  refine tk_aload_n (pc := 11) d_CP_stock_11 rfl ?_
  refine tk_get (pc := 12) d_CP_stock_12 f_CP_10 rfl rfl ?_
  refine tk_get (pc := 15) d_CP_stock_15 f_CP_75 rfl rfl ?_
  refine tk_iload_n (pc := 18) d_CP_stock_18 rfl ?_
  refine tk_iald (pc := 19) i d_CP_stock_19 rfl rfl (by omega) (by decide) ?_
  exact tk_ireturn (pc := 20) d_CP_stock_20 rfl rfl (Nat.le_of_ble_eq_true rfl) (Nat.le_of_ble_eq_true rfl) ⟨rfl, rfl⟩
end PUB1
section PUB2
variable {g : sG} {p : sP} {c : sC} {t : tk_W} {lo hi ls hs mb pc bd : Ar} {n : Nat}
theorem m_heat_full {a b : Int32} : tk_M y_CP_heat w_CP_heat 10 1 6 [.ref 0, .int a, .int b] (wd g (nI 4, lo, hi, ls, hs, mb, pc, bd) p c t) (tk_det (.inr eS) (wd g (nI 4, lo, hi, ls, hs, mb, pc, bd) p c t)) := by
  refine tk_M.of (lv := [some (.ref 0), some (.int a), some (.int b)]) (by decide) (Nat.le_of_ble_eq_true rfl) rfl ?_
  refine tk_aload_n (pc := 0) d_CP_heat_0 rfl ?_
  refine tk_get (pc := 1) d_CP_heat_1 f_CP_19 rfl rfl ?_
  refine tk_get (pc := 4) d_CP_heat_4 f_CP_81 rfl rfl ?_
  refine tk_iconst (pc := 7) (v := 4) d_CP_heat_7 (by decide) ?_
  refine tk_icmp_ge (pc := 8) (tgt := 15) d_CP_heat_8 (by decide) (fun hb => ?_) (fun hb => ?_)
  · refine tk_iconst (pc := 15) (v := 0) d_CP_heat_15 (by decide) ?_
    refine tk_callSx (pc := 16) d_CP_heat_16 l_CP_41 k_CP_requireTurn (c_rt_no) rfl (by omega) (Nat.le_of_ble_eq_true rfl) (Nat.le_of_ble_eq_true rfl) (Nat.le_of_ble_eq_true rfl) rfl rfl (by simp) ?_
    exact ⟨rfl, rfl⟩
  · exact absurd (show (4 : Int32) ≤ nI 4 from by decide) hb
theorem m_heat_bad {a b : Int32} (hn : n < 4) (hb : (a < 1 ∨ 100000 < a) ∨ (b < a ∨ 100000 < b)) : tk_M y_CP_heat w_CP_heat 10 1 6 [.ref 0, .int a, .int b] (wd g (nI n, lo, hi, ls, hs, mb, pc, bd) p c t) (tk_det (.inr eA) (wd g (nI n, lo, hi, ls, hs, mb, pc, bd) p c t)) := by
  refine tk_M.of (lv := [some (.ref 0), some (.int a), some (.int b)]) (by decide) (Nat.le_of_ble_eq_true rfl) rfl ?_
  refine tk_aload_n (pc := 0) d_CP_heat_0 rfl ?_
  refine tk_get (pc := 1) d_CP_heat_1 f_CP_19 rfl rfl ?_
  refine tk_get (pc := 4) d_CP_heat_4 f_CP_81 rfl rfl ?_
  refine tk_iconst (pc := 7) (v := 4) d_CP_heat_7 (by decide) ?_
  refine tk_icmp_ge (pc := 8) (tgt := 15) d_CP_heat_8 (by decide) (fun hc => ?_) (fun hc => ?_)
  · exact absurd hc (nI_ge hn (by decide))
  refine tk_iconst (pc := 11) (v := 1) d_CP_heat_11 (by decide) ?_
  refine tk_goto (pc := 12) (tgt := 16) d_CP_heat_12 (by decide) ?_
  refine tk_callSr (pc := 16) d_CP_heat_16 l_CP_41 k_CP_requireTurn (c_rt_ok (b := 1) (by decide)) rfl (by omega) (Nat.le_of_ble_eq_true rfl) (Nat.le_of_ble_eq_true rfl) (Nat.le_of_ble_eq_true rfl) rfl rfl ?_
  refine tk_iload_n (pc := 19) d_CP_heat_19 rfl ?_
  refine tk_iload_n (pc := 20) d_CP_heat_20 rfl ?_
  refine tk_iconst (pc := 21) (v := 1) d_CP_heat_21 (by decide) ?_
  refine tk_ldc (pc := 22) d_CP_heat_22 q_CP_49 ?_
  refine tk_callSx (pc := 24) d_CP_heat_24 l_CP_58 k_CP_requireSpan (c_rs_no hb) rfl (by omega) (Nat.le_of_ble_eq_true rfl) (Nat.le_of_ble_eq_true rfl) (Nat.le_of_ble_eq_true rfl) rfl rfl (by simp) ?_
  exact ⟨rfl, rfl⟩
theorem m_heat_ok {a b : Int32} (hn : n < 4) (h1 : ¬ a < 1) (h2 : ¬ 100000 < a) (h3 : ¬ b < a) (h4 : ¬ 100000 < b) : tk_M y_CP_heat w_CP_heat 10 1 6 [.ref 0, .int a, .int b] (wd g (nI n, lo, hi, ls, hs, mb, pc, bd) p c t) (tk_det (.inl (some (.int (nI n)))) (wd g (nI (n + 1), upd lo n a, upd hi n b, ls, fil hs (n * 4) 4 10000, upd mb n 30, upd pc n (-1), bd) p c t)) := by
  refine tk_M.of (lv := [some (.ref 0), some (.int a), some (.int b)]) (by decide) (Nat.le_of_ble_eq_true rfl) rfl ?_
  refine tk_aload_n (pc := 0) d_CP_heat_0 rfl ?_
  refine tk_get (pc := 1) d_CP_heat_1 f_CP_19 rfl rfl ?_
  refine tk_get (pc := 4) d_CP_heat_4 f_CP_81 rfl rfl ?_
  refine tk_iconst (pc := 7) (v := 4) d_CP_heat_7 (by decide) ?_
  refine tk_icmp_ge (pc := 8) (tgt := 15) d_CP_heat_8 (by decide) (fun hc => ?_) (fun hc => ?_)
  · exact absurd hc (nI_ge hn (by decide))
  refine tk_iconst (pc := 11) (v := 1) d_CP_heat_11 (by decide) ?_
  refine tk_goto (pc := 12) (tgt := 16) d_CP_heat_12 (by decide) ?_
  refine tk_callSr (pc := 16) d_CP_heat_16 l_CP_41 k_CP_requireTurn (c_rt_ok (b := 1) (by decide)) rfl (by omega) (Nat.le_of_ble_eq_true rfl) (Nat.le_of_ble_eq_true rfl) (Nat.le_of_ble_eq_true rfl) rfl rfl ?_
  refine tk_iload_n (pc := 19) d_CP_heat_19 rfl ?_
  refine tk_iload_n (pc := 20) d_CP_heat_20 rfl ?_
  refine tk_iconst (pc := 21) (v := 1) d_CP_heat_21 (by decide) ?_
  refine tk_ldc (pc := 22) d_CP_heat_22 q_CP_49 ?_
  refine tk_callSr (pc := 24) d_CP_heat_24 l_CP_58 k_CP_requireSpan (c_rs_ok h1 h2 h3 h4) rfl (by omega) (Nat.le_of_ble_eq_true rfl) (Nat.le_of_ble_eq_true rfl) (Nat.le_of_ble_eq_true rfl) rfl rfl ?_
  refine tk_aload_n (pc := 27) d_CP_heat_27 rfl ?_
  refine tk_get (pc := 28) d_CP_heat_28 f_CP_19 rfl rfl ?_
  refine tk_iload_n (pc := 31) d_CP_heat_31 rfl ?_
  refine tk_iload_n (pc := 32) d_CP_heat_32 rfl ?_
  refine tk_callVr (pc := 33) d_CP_heat_33 l_CP_82 k_H_append rfl rfl rfl (m_H_append (a := a) (b := b) hn) rfl (by omega) (Nat.le_of_ble_eq_true rfl) (Nat.le_of_ble_eq_true rfl) (Nat.le_of_ble_eq_true rfl) rfl rfl ?_
  exact tk_ireturn (pc := 36) d_CP_heat_36 rfl rfl (Nat.le_of_ble_eq_true rfl) (Nat.le_of_ble_eq_true rfl) ⟨rfl, rfl⟩
theorem m_span_no {i e a b : Int32} (hi' : (i < 0 ∨ ¬ i < nI n) ∨ (e < 0 ∨ ¬ e < 4)) : tk_M y_CP_span w_CP_span 10 1 6 [.ref 0, .int i, .int e, .int a, .int b] (wd g (nI n, lo, hi, ls, hs, mb, pc, bd) p c t) (tk_det (.inr eI) (wd g (nI n, lo, hi, ls, hs, mb, pc, bd) p c t)) := by
  refine tk_M.of (lv := [some (.ref 0), some (.int i), some (.int e), some (.int a), some (.int b)]) (by decide) (Nat.le_of_ble_eq_true rfl) rfl ?_
  refine tk_iload_n (pc := 0) d_CP_span_0 rfl ?_
  refine tk_aload_n (pc := 1) d_CP_span_1 rfl ?_
  refine tk_get (pc := 2) d_CP_span_2 f_CP_19 rfl rfl ?_
  refine tk_get (pc := 5) d_CP_span_5 f_CP_81 rfl rfl ?_
  by_cases h1 : i < 0 ∨ ¬ i < nI n
  · refine tk_callSx (pc := 8) d_CP_span_8 l_CP_54 k_CP_requireIndex (c_ri_no h1) rfl (by omega) (Nat.le_of_ble_eq_true rfl) (Nat.le_of_ble_eq_true rfl) (Nat.le_of_ble_eq_true rfl) rfl rfl (by simp) ?_
    exact ⟨rfl, rfl⟩
  refine tk_callSr (pc := 8) d_CP_span_8 l_CP_54 k_CP_requireIndex (c_ri_ok (fun z => h1 (Or.inl z)) (Classical.not_not.mp (fun z => h1 (Or.inr z)))) rfl (by omega) (Nat.le_of_ble_eq_true rfl) (Nat.le_of_ble_eq_true rfl) (Nat.le_of_ble_eq_true rfl) rfl rfl ?_
  refine tk_iload_n (pc := 11) d_CP_span_11 rfl ?_
  refine tk_iconst (pc := 12) (v := 4) d_CP_span_12 (by decide) ?_
  refine tk_callSx (pc := 13) d_CP_span_13 l_CP_54 k_CP_requireIndex (c_ri_no (hi'.resolve_left h1)) rfl (by omega) (Nat.le_of_ble_eq_true rfl) (Nat.le_of_ble_eq_true rfl) (Nat.le_of_ble_eq_true rfl) rfl rfl (by simp) ?_
  exact ⟨rfl, rfl⟩
theorem m_span_bad {i e : Nat} {a b : Int32} (hi' : i < n) (hn : n < 5) (he : e < 4) (hb : (a < 0 ∨ 10000 < a) ∨ (b < a ∨ 10000 < b)) : tk_M y_CP_span w_CP_span 10 1 6 [.ref 0, .int (nI i), .int (nI e), .int a, .int b] (wd g (nI n, lo, hi, ls, hs, mb, pc, bd) p c t) (tk_det (.inr eA) (wd g (nI n, lo, hi, ls, hs, mb, pc, bd) p c t)) := by
  refine tk_M.of (lv := [some (.ref 0), some (.int (nI i)), some (.int (nI e)), some (.int a), some (.int b)]) (by decide) (Nat.le_of_ble_eq_true rfl) rfl ?_
  refine tk_iload_n (pc := 0) d_CP_span_0 rfl ?_
  refine tk_aload_n (pc := 1) d_CP_span_1 rfl ?_
  refine tk_get (pc := 2) d_CP_span_2 f_CP_19 rfl rfl ?_
  refine tk_get (pc := 5) d_CP_span_5 f_CP_81 rfl rfl ?_
  refine tk_callSr (pc := 8) d_CP_span_8 l_CP_54 k_CP_requireIndex (c_ri_ok (nI_pos (by omega)) (nI_lt hi' (by omega))) rfl (by omega) (Nat.le_of_ble_eq_true rfl) (Nat.le_of_ble_eq_true rfl) (Nat.le_of_ble_eq_true rfl) rfl rfl ?_
  refine tk_iload_n (pc := 11) d_CP_span_11 rfl ?_
  refine tk_iconst (pc := 12) (v := 4) d_CP_span_12 (by decide) ?_
  refine tk_callSr (pc := 13) d_CP_span_13 l_CP_54 k_CP_requireIndex (c_ri_ok (nI_pos (by omega)) (nI_lt (b := 4) he (by omega))) rfl (by omega) (Nat.le_of_ble_eq_true rfl) (Nat.le_of_ble_eq_true rfl) (Nat.le_of_ble_eq_true rfl) rfl rfl ?_
  refine tk_iload_n (pc := 16) d_CP_span_16 rfl ?_
  refine tk_iload (pc := 17) d_CP_span_17 rfl ?_
  refine tk_iconst (pc := 19) (v := 0) d_CP_span_19 (by decide) ?_
  refine tk_sipush (pc := 20) (v := 10000) d_CP_span_20 (by decide) ?_
  refine tk_callSx (pc := 23) d_CP_span_23 l_CP_58 k_CP_requireSpan (c_rs_no hb) rfl (by omega) (Nat.le_of_ble_eq_true rfl) (Nat.le_of_ble_eq_true rfl) (Nat.le_of_ble_eq_true rfl) rfl rfl (by simp) ?_
  exact ⟨rfl, rfl⟩
theorem m_span_ok {i e : Nat} {a b : Int32} (hi' : i < n) (hn : n < 5) (he : e < 4) (h1 : ¬ a < 0) (h2 : ¬ 10000 < a) (h3 : ¬ b < a) (h4 : ¬ 10000 < b) : tk_M y_CP_span w_CP_span 10 1 6 [.ref 0, .int (nI i), .int (nI e), .int a, .int b] (wd g (nI n, lo, hi, ls, hs, mb, pc, bd) p c t) (tk_det (.inl none) (wd g (nI n, lo, hi, upd ls (i * 4 + e) a, upd hs (i * 4 + e) b, mb, pc, bd) p c t)) := by
  refine tk_M.of (lv := [some (.ref 0), some (.int (nI i)), some (.int (nI e)), some (.int a), some (.int b)]) (by decide) (Nat.le_of_ble_eq_true rfl) rfl ?_
  refine tk_iload_n (pc := 0) d_CP_span_0 rfl ?_
  refine tk_aload_n (pc := 1) d_CP_span_1 rfl ?_
  refine tk_get (pc := 2) d_CP_span_2 f_CP_19 rfl rfl ?_
  refine tk_get (pc := 5) d_CP_span_5 f_CP_81 rfl rfl ?_
  refine tk_callSr (pc := 8) d_CP_span_8 l_CP_54 k_CP_requireIndex (c_ri_ok (nI_pos (by omega)) (nI_lt hi' (by omega))) rfl (by omega) (Nat.le_of_ble_eq_true rfl) (Nat.le_of_ble_eq_true rfl) (Nat.le_of_ble_eq_true rfl) rfl rfl ?_
  refine tk_iload_n (pc := 11) d_CP_span_11 rfl ?_
  refine tk_iconst (pc := 12) (v := 4) d_CP_span_12 (by decide) ?_
  refine tk_callSr (pc := 13) d_CP_span_13 l_CP_54 k_CP_requireIndex (c_ri_ok (nI_pos (by omega)) (nI_lt (b := 4) he (by omega))) rfl (by omega) (Nat.le_of_ble_eq_true rfl) (Nat.le_of_ble_eq_true rfl) (Nat.le_of_ble_eq_true rfl) rfl rfl ?_
  refine tk_iload_n (pc := 16) d_CP_span_16 rfl ?_
  refine tk_iload (pc := 17) d_CP_span_17 rfl ?_
  refine tk_iconst (pc := 19) (v := 0) d_CP_span_19 (by decide) ?_
  refine tk_sipush (pc := 20) (v := 10000) d_CP_span_20 (by decide) ?_
  refine tk_callSr (pc := 23) d_CP_span_23 l_CP_58 k_CP_requireSpan (c_rs_ok h1 h2 h3 h4) rfl (by omega) (Nat.le_of_ble_eq_true rfl) (Nat.le_of_ble_eq_true rfl) (Nat.le_of_ble_eq_true rfl) rfl rfl ?_
  refine tk_aload_n (pc := 26) d_CP_span_26 rfl ?_
  refine tk_get (pc := 27) d_CP_span_27 f_CP_19 rfl rfl ?_
  refine tk_get (pc := 30) d_CP_span_30 f_CP_85 rfl rfl ?_
  refine tk_iload_n (pc := 33) d_CP_span_33 rfl ?_
  refine tk_iconst (pc := 34) (v := 4) d_CP_span_34 (by decide) ?_
  refine tk_imul (pc := 35) d_CP_span_35 ?_
  refine tk_iload_n (pc := 36) d_CP_span_36 rfl ?_
  refine tk_iadd (pc := 37) d_CP_span_37 ?_
  refine tk_iload_n (pc := 38) d_CP_span_38 rfl ?_
  refine tk_iast (pc := 39) (i*4+e) d_CP_span_39 rfl (ixma i 4 e) (by omega) (by decide) ?_
  refine tk_aload_n (pc := 40) d_CP_span_40 rfl ?_
  refine tk_get (pc := 41) d_CP_span_41 f_CP_19 rfl rfl ?_
  refine tk_get (pc := 44) d_CP_span_44 f_CP_86 rfl rfl ?_
  refine tk_iload_n (pc := 47) d_CP_span_47 rfl ?_
  refine tk_iconst (pc := 48) (v := 4) d_CP_span_48 (by decide) ?_
  refine tk_imul (pc := 49) d_CP_span_49 ?_
  refine tk_iload_n (pc := 50) d_CP_span_50 rfl ?_
  refine tk_iadd (pc := 51) d_CP_span_51 ?_
  refine tk_iload (pc := 52) d_CP_span_52 rfl ?_
  refine tk_iast (pc := 54) (i*4+e) d_CP_span_54 rfl (ixma i 4 e) (by omega) (by decide) ?_
  exact tk_return (pc := 55) d_CP_span_55 rfl (Nat.le_of_ble_eq_true rfl) (Nat.le_of_ble_eq_true rfl) ⟨rfl, rfl⟩
theorem m_most_no {i a : Int32} (hi' : i < 0 ∨ ¬ i < nI n) : tk_M y_CP_most w_CP_most 10 1 6 [.ref 0, .int i, .int a] (wd g (nI n, lo, hi, ls, hs, mb, pc, bd) p c t) (tk_det (.inr eI) (wd g (nI n, lo, hi, ls, hs, mb, pc, bd) p c t)) := by
  refine tk_M.of (lv := [some (.ref 0), some (.int i), some (.int a)]) (by decide) (Nat.le_of_ble_eq_true rfl) rfl ?_
  refine tk_iload_n (pc := 0) d_CP_most_0 rfl ?_
  refine tk_aload_n (pc := 1) d_CP_most_1 rfl ?_
  refine tk_get (pc := 2) d_CP_most_2 f_CP_19 rfl rfl ?_
  refine tk_get (pc := 5) d_CP_most_5 f_CP_81 rfl rfl ?_
  refine tk_callSx (pc := 8) d_CP_most_8 l_CP_54 k_CP_requireIndex (c_ri_no hi') rfl (by omega) (Nat.le_of_ble_eq_true rfl) (Nat.le_of_ble_eq_true rfl) (Nat.le_of_ble_eq_true rfl) rfl rfl (by simp) ?_
  exact ⟨rfl, rfl⟩
theorem m_most_bad {i : Nat} {a : Int32} (hi' : i < n) (hn : n < 5) (hb : a < 0 ∨ 30 < a) : tk_M y_CP_most w_CP_most 10 1 6 [.ref 0, .int (nI i), .int a] (wd g (nI n, lo, hi, ls, hs, mb, pc, bd) p c t) (tk_det (.inr eA) (wd g (nI n, lo, hi, ls, hs, mb, pc, bd) p c t)) := by
  refine tk_M.of (lv := [some (.ref 0), some (.int (nI i)), some (.int a)]) (by decide) (Nat.le_of_ble_eq_true rfl) rfl ?_
  refine tk_iload_n (pc := 0) d_CP_most_0 rfl ?_
  refine tk_aload_n (pc := 1) d_CP_most_1 rfl ?_
  refine tk_get (pc := 2) d_CP_most_2 f_CP_19 rfl rfl ?_
  refine tk_get (pc := 5) d_CP_most_5 f_CP_81 rfl rfl ?_
  refine tk_callSr (pc := 8) d_CP_most_8 l_CP_54 k_CP_requireIndex (c_ri_ok (nI_pos (by omega)) (nI_lt hi' (by omega))) rfl (by omega) (Nat.le_of_ble_eq_true rfl) (Nat.le_of_ble_eq_true rfl) (Nat.le_of_ble_eq_true rfl) rfl rfl ?_
  refine tk_iload_n (pc := 11) d_CP_most_11 rfl ?_
  refine tk_iconst (pc := 12) (v := 0) d_CP_most_12 (by decide) ?_
  refine tk_bipush (pc := 13) (v := 30) d_CP_most_13 (by decide) ?_
  refine tk_callSx (pc := 15) d_CP_most_15 l_CP_45 k_CP_requireRange (c_rr_no hb) rfl (by omega) (Nat.le_of_ble_eq_true rfl) (Nat.le_of_ble_eq_true rfl) (Nat.le_of_ble_eq_true rfl) rfl rfl (by simp) ?_
  exact ⟨rfl, rfl⟩
theorem m_most_ok {i : Nat} {a : Int32} (hi' : i < n) (hn : n < 5) (hb : ¬ (a < 0 ∨ 30 < a)) : tk_M y_CP_most w_CP_most 10 1 6 [.ref 0, .int (nI i), .int a] (wd g (nI n, lo, hi, ls, hs, mb, pc, bd) p c t) (tk_det (.inl none) (wd g (nI n, lo, hi, ls, hs, upd mb i a, pc, bd) p c t)) := by
  refine tk_M.of (lv := [some (.ref 0), some (.int (nI i)), some (.int a)]) (by decide) (Nat.le_of_ble_eq_true rfl) rfl ?_
  refine tk_iload_n (pc := 0) d_CP_most_0 rfl ?_
  refine tk_aload_n (pc := 1) d_CP_most_1 rfl ?_
  refine tk_get (pc := 2) d_CP_most_2 f_CP_19 rfl rfl ?_
  refine tk_get (pc := 5) d_CP_most_5 f_CP_81 rfl rfl ?_
  refine tk_callSr (pc := 8) d_CP_most_8 l_CP_54 k_CP_requireIndex (c_ri_ok (nI_pos (by omega)) (nI_lt hi' (by omega))) rfl (by omega) (Nat.le_of_ble_eq_true rfl) (Nat.le_of_ble_eq_true rfl) (Nat.le_of_ble_eq_true rfl) rfl rfl ?_
  refine tk_iload_n (pc := 11) d_CP_most_11 rfl ?_
  refine tk_iconst (pc := 12) (v := 0) d_CP_most_12 (by decide) ?_
  refine tk_bipush (pc := 13) (v := 30) d_CP_most_13 (by decide) ?_
  refine tk_callSr (pc := 15) d_CP_most_15 l_CP_45 k_CP_requireRange (c_rr_ok (fun z => hb (Or.inl z)) (fun z => hb (Or.inr z))) rfl (by omega) (Nat.le_of_ble_eq_true rfl) (Nat.le_of_ble_eq_true rfl) (Nat.le_of_ble_eq_true rfl) rfl rfl ?_
  refine tk_aload_n (pc := 18) d_CP_most_18 rfl ?_
  refine tk_get (pc := 19) d_CP_most_19 f_CP_19 rfl rfl ?_
  refine tk_get (pc := 22) d_CP_most_22 f_CP_87 rfl rfl ?_
  refine tk_iload_n (pc := 25) d_CP_most_25 rfl ?_
  refine tk_iload_n (pc := 26) d_CP_most_26 rfl ?_
  refine tk_iast (pc := 27) i d_CP_most_27 rfl rfl (by omega) (by decide) ?_
  exact tk_return (pc := 28) d_CP_most_28 rfl (Nat.le_of_ble_eq_true rfl) (Nat.le_of_ble_eq_true rfl) ⟨rfl, rfl⟩
end PUB2
end
section
/-! ===== the public methods: plans ===== -/
def pkl (bd gk : Ar) (ht : Nat) : Nat → Int64
  | 0 => 0
  | i + 1 => pkl bd gk ht i + (bd (ht * 5 + i)).toInt64 * (gk i).toInt64
def psh (bd gk sh : Ar) (ht e : Nat) : Nat → Int64
  | 0 => 0
  | i + 1 => psh bd gk sh ht e i + (bd (ht * 5 + i)).toInt64 * (gk i).toInt64 * (sh (i * 4 + e)).toInt64
def cdF : Nat → Int64 → Int64 → Int64
  | 0, a, _ => a
  | m + 1, a, b => if b = 0 then a else cdF m b (a - a / b * b)
def cdv (a b : Int64) : Int64 := if (1 : Int64) < cdF 100 a b then cdF 100 a b else 1
def bdF (g : sG) (lw : Int32) : Nat → Int64
  | 0 => -1
  | i + 1 => if 0 < rmin g i ∧ (0 : Int64) < (g.2.1 i).toInt64 then
      (if bdF g lw i = -1 then (lw.toInt64 * (g.2.2.1 i).toInt64 + (g.2.1 i).toInt64 - 1) / (g.2.1 i).toInt64
       else if (lw.toInt64 * (g.2.2.1 i).toInt64 + (g.2.1 i).toInt64 - 1) / (g.2.1 i).toInt64 < bdF g lw i then (lw.toInt64 * (g.2.2.1 i).toInt64 + (g.2.1 i).toInt64 - 1) / (g.2.1 i).toInt64 else bdF g lw i)
      else bdF g lw i
def enF (gs bd : Ar) (ht : Nat) : Nat → Nat → Int32
  | 0, _ => 1
  | m + 1, i => if bd (ht * 5 + i) ≤ gs i then enF gs bd ht m (i + 1) else 0
def tkf (gs bd : Ar) (ht i : Nat) : Ar := fun j => if j < i then gs j - bd (ht * 5 + j) else gs j
theorem tkf_0 (gs bd : Ar) (ht : Nat) : tkf gs bd ht 0 = gs := by
  funext j; simp only [tkf]; rw [if_neg (by omega)]
theorem tkf_s (gs bd : Ar) (ht i : Nat) : upd (tkf gs bd ht i) i (tkf gs bd ht i i - bd (ht * 5 + i)) = tkf gs bd ht (i + 1) := by
  funext j
  simp only [upd, tkf]
  by_cases h1 : j = i
  · subst h1; rw [if_pos rfl, if_neg (by omega), if_pos (by omega)]
  · rw [if_neg h1]
    by_cases h2 : j < i
    · rw [if_pos h2, if_pos (by omega)]
    · rw [if_neg h2, if_neg (by omega)]
theorem m_cdv {w : tk_W} {a b : Int64} : tk_M y_CP_commonDivisor w_CP_commonDivisor 0 0 0 [.long a, .long b] w (tk_det (.inl (some (.long (cdv a b)))) w) := by
  refine tk_M.of (lv := [some (.long a), none, some (.long b), none, none, none, none, none, none, none, none]) (by decide) (Nat.le_of_ble_eq_true rfl) rfl ?_
  refine tk_lload_n (pc := 0) d_CP_commonDivisor_0 rfl ?_
  refine tk_lstore4 (pc := 1) d_CP_commonDivisor_1 rfl (by decide) ?_
  refine tk_lload_n (pc := 3) d_CP_commonDivisor_3 rfl ?_
  refine tk_lstore6 (pc := 4) d_CP_commonDivisor_4 rfl (by decide) ?_
  refine tk_iconst (pc := 6) (v := 0) d_CP_commonDivisor_6 (by decide) ?_
  refine tk_istore8 (pc := 7) d_CP_commonDivisor_7 rfl (by decide) ?_
  have key : ∀ (m i : Nat) (x z : Int64) (o9 o10 : Option Value), i + m = 100 → cdF m x z = cdF 100 a b → tk_T y_CP_commonDivisor c_CP_commonDivisor 11 (some .long) [] 0 0 0 (fun _ => none) 0 0 (tk_det (.inl (some (.long (cdv a b)))) w) 9 [some (.long a), none, some (.long b), none, some (.long x), none, some (.long z), none, some (.int (nI i)), o9, o10] [] w := by
    have fin : ∀ (i : Nat) (x z : Int64) (o9 o10 : Option Value), x = cdF 100 a b → tk_T y_CP_commonDivisor c_CP_commonDivisor 11 (some .long) [] 0 0 0 (fun _ => none) 0 0 (tk_det (.inl (some (.long (cdv a b)))) w) 44 [some (.long a), none, some (.long b), none, some (.long x), none, some (.long z), none, some (.int (nI i)), o9, o10] [] w := by
      intro i x z o9 o10 hx
      refine tk_lload (pc := 44) d_CP_commonDivisor_44 rfl ?_
      refine tk_lconst (pc := 46) (v := 1) d_CP_commonDivisor_46 (by decide) ?_
      refine tk_mmaxL (pc := 47) d_CP_commonDivisor_47 z_CP_maxL z_maxL1 z_math z_maxL2 (Nat.le_of_ble_eq_true rfl) (Nat.le_of_ble_eq_true rfl) (Nat.le_of_ble_eq_true rfl) ?_
      exact tk_lreturn (pc := 50) d_CP_commonDivisor_50 rfl (Nat.le_of_ble_eq_true rfl) (Nat.le_of_ble_eq_true rfl) ⟨by rw [hx]; rfl, rfl⟩
    intro m
    induction m with
    | zero =>
      intro i x z o9 o10 hi hz
      obtain rfl : i = 100 := by omega
      refine tk_iload (pc := 9) d_CP_commonDivisor_9 rfl ?_
      refine tk_bipush (pc := 11) (v := 100) d_CP_commonDivisor_11 (by decide) ?_
      refine tk_icmp_ge (pc := 13) (tgt := 44) d_CP_commonDivisor_13 (by decide) (fun hb => ?_) (fun hb => ?_)
      · exact fin _ _ _ _ _ hz
      · exact absurd (show nI 100 ≤ nI 100 from by decide) hb
    | succ m ih =>
      intro i x z o9 o10 hi hz
      refine tk_iload (pc := 9) d_CP_commonDivisor_9 rfl ?_
      refine tk_bipush (pc := 11) (v := 100) d_CP_commonDivisor_11 (by decide) ?_
      refine tk_icmp_ge (pc := 13) (tgt := 44) d_CP_commonDivisor_13 (by decide) (fun hb => ?_) (fun hb => ?_)
      · exact absurd ((nI_leI (a := 100) (b := i) (by omega) (by omega)).mp hb) (by omega)
      refine tk_lload (pc := 16) d_CP_commonDivisor_16 rfl ?_
      refine tk_lconst (pc := 18) (v := 0) d_CP_commonDivisor_18 (by decide) ?_
      refine tk_lcmp (pc := 19) d_CP_commonDivisor_19 ?_
      refine tk_if_eq (pc := 20) (tgt := 44) d_CP_commonDivisor_20 (by decide) (fun hc => ?_) (fun hc => ?_)
      · refine fin _ _ _ _ _ ?_
        rw [← hz]
        simp only [cdF]
        rw [if_pos ((lg_cmp_eq _ _).mp hc)]
      · have hz0 : ¬ z = 0 := fun q => hc ((lg_cmp_eq _ _).mpr q)
        refine tk_lload (pc := 23) d_CP_commonDivisor_23 rfl ?_
        refine tk_lload (pc := 25) d_CP_commonDivisor_25 rfl ?_
        refine tk_lrem (pc := 27) d_CP_commonDivisor_27 hz0 ?_
        refine tk_lstore9 (pc := 28) d_CP_commonDivisor_28 rfl (by decide) ?_
        refine tk_lload (pc := 30) d_CP_commonDivisor_30 rfl ?_
        refine tk_lstore4 (pc := 32) d_CP_commonDivisor_32 rfl (by decide) ?_
        refine tk_lload (pc := 34) d_CP_commonDivisor_34 rfl ?_
        refine tk_lstore6 (pc := 36) d_CP_commonDivisor_36 rfl (by decide) ?_
        refine tk_jinc8 (pc := 38) d_CP_commonDivisor_38 rfl (by decide) ?_
        refine tk_goto (pc := 41) (tgt := 9) d_CP_commonDivisor_41 (by decide) ?_
        refine tk_eq rfl (by rw [inc1]) rfl rfl (ih (i + 1) z (x - x / z * z) (some (.long (x - x / z * z))) none (by omega) ?_)
        rw [← hz]
        simp only [cdF]
        rw [if_neg hz0]
  exact key 100 0 a b none none rfl rfl
section PUB3
variable {gk gc gs gl ga gb : Ar} {gn : Nat} {p : sP} {c : sC} {t : tk_W} {lo hi ls hs mb pc bd : Ar} {n : Nat}
theorem m_pkl {ht : Nat} (hg : gn < 6) (hh : ht < 4) : tk_M y_CP_plannedKilos w_CP_plannedKilos 0 0 0 [.ref 0, .int (nI ht)] (wd (nI gn, gk, gc, gs, gl, ga, gb) (nI n, lo, hi, ls, hs, mb, pc, bd) p c t) (tk_det (.inl (some (.long (pkl bd gk ht gn)))) (wd (nI gn, gk, gc, gs, gl, ga, gb) (nI n, lo, hi, ls, hs, mb, pc, bd) p c t)) := by
  refine tk_M.of (lv := [some (.ref 0), some (.int (nI ht)), none, none, none]) (by decide) (Nat.le_of_ble_eq_true rfl) rfl ?_
  refine tk_lconst (pc := 0) (v := 0) d_CP_plannedKilos_0 (by decide) ?_
  refine tk_lstore2 (pc := 1) d_CP_plannedKilos_1 rfl (by decide) ?_
  refine tk_iconst (pc := 2) (v := 0) d_CP_plannedKilos_2 (by decide) ?_
  refine tk_istore4 (pc := 3) d_CP_plannedKilos_3 rfl (by decide) ?_
  have key : ∀ (m i : Nat), i + m = gn → tk_T y_CP_plannedKilos c_CP_plannedKilos 5 (some .long) [] 0 0 0 (fun _ => none) 0 0 (tk_det (.inl (some (.long (pkl bd gk ht gn)))) (wd (nI gn, gk, gc, gs, gl, ga, gb) (nI n, lo, hi, ls, hs, mb, pc, bd) p c t)) 5 [some (.ref 0), some (.int (nI ht)), some (.long (pkl bd gk ht i)), none, some (.int (nI i))] [] (wd (nI gn, gk, gc, gs, gl, ga, gb) (nI n, lo, hi, ls, hs, mb, pc, bd) p c t) := by
    intro m
    induction m with
    | zero =>
      intro i hi'
      obtain rfl : i = gn := by omega
      refine tk_iload (pc := 5) d_CP_plannedKilos_5 rfl ?_
      refine tk_aload_n (pc := 7) d_CP_plannedKilos_7 rfl ?_
      refine tk_get (pc := 8) d_CP_plannedKilos_8 f_CP_10 rfl rfl ?_
      refine tk_get (pc := 11) d_CP_plannedKilos_11 f_CP_37 rfl rfl ?_
      refine tk_icmp_ge (pc := 14) (tgt := 53) d_CP_plannedKilos_14 (by decide) (fun hb => ?_) (fun hb => ?_)
      · refine tk_lload_n (pc := 53) d_CP_plannedKilos_53 rfl ?_
        exact tk_lreturn (pc := 54) d_CP_plannedKilos_54 rfl (Nat.le_of_ble_eq_true rfl) (Nat.le_of_ble_eq_true rfl) ⟨rfl, rfl⟩
      · exact absurd ((nI_leI (a := i) (b := i) (by omega) (by omega)).mpr (Nat.le_refl _)) hb
    | succ m ih =>
      intro i hi'
      refine tk_iload (pc := 5) d_CP_plannedKilos_5 rfl ?_
      refine tk_aload_n (pc := 7) d_CP_plannedKilos_7 rfl ?_
      refine tk_get (pc := 8) d_CP_plannedKilos_8 f_CP_10 rfl rfl ?_
      refine tk_get (pc := 11) d_CP_plannedKilos_11 f_CP_37 rfl rfl ?_
      refine tk_icmp_ge (pc := 14) (tgt := 53) d_CP_plannedKilos_14 (by decide) (fun hb => ?_) (fun hb => ?_)
      · exact absurd ((nI_leI (a := gn) (b := i) (by omega) (by omega)).mp hb) (by omega)
      refine tk_lload_n (pc := 17) d_CP_plannedKilos_17 rfl ?_
      refine tk_aload_n (pc := 18) d_CP_plannedKilos_18 rfl ?_
      refine tk_get (pc := 19) d_CP_plannedKilos_19 f_CP_19 rfl rfl ?_
      refine tk_get (pc := 22) d_CP_plannedKilos_22 f_CP_118 rfl rfl ?_
      refine tk_iload_n (pc := 25) d_CP_plannedKilos_25 rfl ?_
      refine tk_iconst (pc := 26) (v := 5) d_CP_plannedKilos_26 (by decide) ?_
      refine tk_imul (pc := 27) d_CP_plannedKilos_27 ?_
      refine tk_iload (pc := 28) d_CP_plannedKilos_28 rfl ?_
      refine tk_iadd (pc := 30) d_CP_plannedKilos_30 ?_
      refine tk_iald (pc := 31) (ht*5+i) d_CP_plannedKilos_31 rfl (ixma ht 5 i) (by omega) (by decide) ?_
      refine tk_i2l (pc := 32) d_CP_plannedKilos_32 ?_
      refine tk_aload_n (pc := 33) d_CP_plannedKilos_33 rfl ?_
      refine tk_get (pc := 34) d_CP_plannedKilos_34 f_CP_10 rfl rfl ?_
      refine tk_get (pc := 37) d_CP_plannedKilos_37 f_CP_135 rfl rfl ?_
      refine tk_iload (pc := 40) d_CP_plannedKilos_40 rfl ?_
      refine tk_iald (pc := 42) i d_CP_plannedKilos_42 rfl rfl (by omega) (by decide) ?_
      refine tk_i2l (pc := 43) d_CP_plannedKilos_43 ?_
      refine tk_lmul (pc := 44) d_CP_plannedKilos_44 ?_
      refine tk_ladd (pc := 45) d_CP_plannedKilos_45 ?_
      refine tk_lstore2 (pc := 46) d_CP_plannedKilos_46 rfl (by decide) ?_
      refine tk_jinc4 (pc := 47) d_CP_plannedKilos_47 rfl (by decide) ?_
      refine tk_goto (pc := 50) (tgt := 5) d_CP_plannedKilos_50 (by decide) ?_
      exact tk_eq rfl (by rw [inc1]; rfl) rfl rfl (ih (i + 1) (by omega))
  exact key gn 0 (by omega)
theorem m_pshL {ht e : Nat} (hg : gn < 6) (hh : ht < 4) (he : e < 4) : tk_M y_CP_plannedShares w_CP_plannedShares 0 0 0 [.ref 0, .int (nI ht), .int (nI e), .ref 6] (wd (nI gn, gk, gc, gs, gl, ga, gb) (nI n, lo, hi, ls, hs, mb, pc, bd) p c t) (tk_det (.inl (some (.long (psh bd gk ga ht e gn)))) (wd (nI gn, gk, gc, gs, gl, ga, gb) (nI n, lo, hi, ls, hs, mb, pc, bd) p c t)) := by
  refine tk_M.of (lv := [some (.ref 0), some (.int (nI ht)), some (.int (nI e)), some (.ref 6), none, none, none, none, none]) (by decide) (Nat.le_of_ble_eq_true rfl) rfl ?_
  refine tk_lconst (pc := 0) (v := 0) d_CP_plannedShares_0 (by decide) ?_
  refine tk_lstore4 (pc := 1) d_CP_plannedShares_1 rfl (by decide) ?_
  refine tk_iconst (pc := 3) (v := 0) d_CP_plannedShares_3 (by decide) ?_
  refine tk_istore6 (pc := 4) d_CP_plannedShares_4 rfl (by decide) ?_
  have key : ∀ (m i : Nat) (o7 o8 : Option Value), i + m = gn → tk_T y_CP_plannedShares c_CP_plannedShares 9 (some .long) [] 0 0 0 (fun _ => none) 0 0 (tk_det (.inl (some (.long (psh bd gk ga ht e gn)))) (wd (nI gn, gk, gc, gs, gl, ga, gb) (nI n, lo, hi, ls, hs, mb, pc, bd) p c t)) 6 [some (.ref 0), some (.int (nI ht)), some (.int (nI e)), some (.ref 6), some (.long (psh bd gk ga ht e i)), none, some (.int (nI i)), o7, o8] [] (wd (nI gn, gk, gc, gs, gl, ga, gb) (nI n, lo, hi, ls, hs, mb, pc, bd) p c t) := by
    intro m
    induction m with
    | zero =>
      intro i o7 o8 hi'
      obtain rfl : i = gn := by omega
      refine tk_iload (pc := 6) d_CP_plannedShares_6 rfl ?_
      refine tk_aload_n (pc := 8) d_CP_plannedShares_8 rfl ?_
      refine tk_get (pc := 9) d_CP_plannedShares_9 f_CP_10 rfl rfl ?_
      refine tk_get (pc := 12) d_CP_plannedShares_12 f_CP_37 rfl rfl ?_
      refine tk_icmp_ge (pc := 15) (tgt := 70) d_CP_plannedShares_15 (by decide) (fun hb => ?_) (fun hb => ?_)
      · refine tk_lload (pc := 70) d_CP_plannedShares_70 rfl ?_
        exact tk_lreturn (pc := 72) d_CP_plannedShares_72 rfl (Nat.le_of_ble_eq_true rfl) (Nat.le_of_ble_eq_true rfl) ⟨rfl, rfl⟩
      · exact absurd ((nI_leI (a := i) (b := i) (by omega) (by omega)).mpr (Nat.le_refl _)) hb
    | succ m ih =>
      intro i o7 o8 hi'
      refine tk_iload (pc := 6) d_CP_plannedShares_6 rfl ?_
      refine tk_aload_n (pc := 8) d_CP_plannedShares_8 rfl ?_
      refine tk_get (pc := 9) d_CP_plannedShares_9 f_CP_10 rfl rfl ?_
      refine tk_get (pc := 12) d_CP_plannedShares_12 f_CP_37 rfl rfl ?_
      refine tk_icmp_ge (pc := 15) (tgt := 70) d_CP_plannedShares_15 (by decide) (fun hb => ?_) (fun hb => ?_)
      · exact absurd ((nI_leI (a := gn) (b := i) (by omega) (by omega)).mp hb) (by omega)
      refine tk_aload_n (pc := 18) d_CP_plannedShares_18 rfl ?_
      refine tk_get (pc := 19) d_CP_plannedShares_19 f_CP_19 rfl rfl ?_
      refine tk_get (pc := 22) d_CP_plannedShares_22 f_CP_118 rfl rfl ?_
      refine tk_iload_n (pc := 25) d_CP_plannedShares_25 rfl ?_
      refine tk_iconst (pc := 26) (v := 5) d_CP_plannedShares_26 (by decide) ?_
      refine tk_imul (pc := 27) d_CP_plannedShares_27 ?_
      refine tk_iload (pc := 28) d_CP_plannedShares_28 rfl ?_
      refine tk_iadd (pc := 30) d_CP_plannedShares_30 ?_
      refine tk_iald (pc := 31) (ht*5+i) d_CP_plannedShares_31 rfl (ixma ht 5 i) (by omega) (by decide) ?_
      refine tk_i2l (pc := 32) d_CP_plannedShares_32 ?_
      refine tk_aload_n (pc := 33) d_CP_plannedShares_33 rfl ?_
      refine tk_get (pc := 34) d_CP_plannedShares_34 f_CP_10 rfl rfl ?_
      refine tk_get (pc := 37) d_CP_plannedShares_37 f_CP_135 rfl rfl ?_
      refine tk_iload (pc := 40) d_CP_plannedShares_40 rfl ?_
      refine tk_iald (pc := 42) i d_CP_plannedShares_42 rfl rfl (by omega) (by decide) ?_
      refine tk_i2l (pc := 43) d_CP_plannedShares_43 ?_
      refine tk_lmul (pc := 44) d_CP_plannedShares_44 ?_
      refine tk_lstore7 (pc := 45) d_CP_plannedShares_45 rfl (by decide) ?_
      refine tk_lload (pc := 47) d_CP_plannedShares_47 rfl ?_
      refine tk_lload (pc := 49) d_CP_plannedShares_49 rfl ?_
      refine tk_aload_n (pc := 51) d_CP_plannedShares_51 rfl ?_
      refine tk_iload (pc := 52) d_CP_plannedShares_52 rfl ?_
      refine tk_iconst (pc := 54) (v := 4) d_CP_plannedShares_54 (by decide) ?_
      refine tk_imul (pc := 55) d_CP_plannedShares_55 ?_
      refine tk_iload_n (pc := 56) d_CP_plannedShares_56 rfl ?_
      refine tk_iadd (pc := 57) d_CP_plannedShares_57 ?_
      refine tk_iald (pc := 58) (i*4+e) d_CP_plannedShares_58 rfl (ixma i 4 e) (by omega) (by decide) ?_
      refine tk_i2l (pc := 59) d_CP_plannedShares_59 ?_
      refine tk_lmul (pc := 60) d_CP_plannedShares_60 ?_
      refine tk_ladd (pc := 61) d_CP_plannedShares_61 ?_
      refine tk_lstore4 (pc := 62) d_CP_plannedShares_62 rfl (by decide) ?_
      refine tk_jinc6 (pc := 64) d_CP_plannedShares_64 rfl (by decide) ?_
      refine tk_goto (pc := 67) (tgt := 6) d_CP_plannedShares_67 (by decide) ?_
      exact tk_eq rfl (by rw [inc1]; rfl) rfl rfl (ih (i + 1) _ _ (by omega))
  exact key gn 0 none none (by omega)
theorem m_pshH {ht e : Nat} (hg : gn < 6) (hh : ht < 4) (he : e < 4) : tk_M y_CP_plannedShares w_CP_plannedShares 0 0 0 [.ref 0, .int (nI ht), .int (nI e), .ref 7] (wd (nI gn, gk, gc, gs, gl, ga, gb) (nI n, lo, hi, ls, hs, mb, pc, bd) p c t) (tk_det (.inl (some (.long (psh bd gk gb ht e gn)))) (wd (nI gn, gk, gc, gs, gl, ga, gb) (nI n, lo, hi, ls, hs, mb, pc, bd) p c t)) := by
  refine tk_M.of (lv := [some (.ref 0), some (.int (nI ht)), some (.int (nI e)), some (.ref 7), none, none, none, none, none]) (by decide) (Nat.le_of_ble_eq_true rfl) rfl ?_
  refine tk_lconst (pc := 0) (v := 0) d_CP_plannedShares_0 (by decide) ?_
  refine tk_lstore4 (pc := 1) d_CP_plannedShares_1 rfl (by decide) ?_
  refine tk_iconst (pc := 3) (v := 0) d_CP_plannedShares_3 (by decide) ?_
  refine tk_istore6 (pc := 4) d_CP_plannedShares_4 rfl (by decide) ?_
  have key : ∀ (m i : Nat) (o7 o8 : Option Value), i + m = gn → tk_T y_CP_plannedShares c_CP_plannedShares 9 (some .long) [] 0 0 0 (fun _ => none) 0 0 (tk_det (.inl (some (.long (psh bd gk gb ht e gn)))) (wd (nI gn, gk, gc, gs, gl, ga, gb) (nI n, lo, hi, ls, hs, mb, pc, bd) p c t)) 6 [some (.ref 0), some (.int (nI ht)), some (.int (nI e)), some (.ref 7), some (.long (psh bd gk gb ht e i)), none, some (.int (nI i)), o7, o8] [] (wd (nI gn, gk, gc, gs, gl, ga, gb) (nI n, lo, hi, ls, hs, mb, pc, bd) p c t) := by
    intro m
    induction m with
    | zero =>
      intro i o7 o8 hi'
      obtain rfl : i = gn := by omega
      refine tk_iload (pc := 6) d_CP_plannedShares_6 rfl ?_
      refine tk_aload_n (pc := 8) d_CP_plannedShares_8 rfl ?_
      refine tk_get (pc := 9) d_CP_plannedShares_9 f_CP_10 rfl rfl ?_
      refine tk_get (pc := 12) d_CP_plannedShares_12 f_CP_37 rfl rfl ?_
      refine tk_icmp_ge (pc := 15) (tgt := 70) d_CP_plannedShares_15 (by decide) (fun hb => ?_) (fun hb => ?_)
      · refine tk_lload (pc := 70) d_CP_plannedShares_70 rfl ?_
        exact tk_lreturn (pc := 72) d_CP_plannedShares_72 rfl (Nat.le_of_ble_eq_true rfl) (Nat.le_of_ble_eq_true rfl) ⟨rfl, rfl⟩
      · exact absurd ((nI_leI (a := i) (b := i) (by omega) (by omega)).mpr (Nat.le_refl _)) hb
    | succ m ih =>
      intro i o7 o8 hi'
      refine tk_iload (pc := 6) d_CP_plannedShares_6 rfl ?_
      refine tk_aload_n (pc := 8) d_CP_plannedShares_8 rfl ?_
      refine tk_get (pc := 9) d_CP_plannedShares_9 f_CP_10 rfl rfl ?_
      refine tk_get (pc := 12) d_CP_plannedShares_12 f_CP_37 rfl rfl ?_
      refine tk_icmp_ge (pc := 15) (tgt := 70) d_CP_plannedShares_15 (by decide) (fun hb => ?_) (fun hb => ?_)
      · exact absurd ((nI_leI (a := gn) (b := i) (by omega) (by omega)).mp hb) (by omega)
      refine tk_aload_n (pc := 18) d_CP_plannedShares_18 rfl ?_
      refine tk_get (pc := 19) d_CP_plannedShares_19 f_CP_19 rfl rfl ?_
      refine tk_get (pc := 22) d_CP_plannedShares_22 f_CP_118 rfl rfl ?_
      refine tk_iload_n (pc := 25) d_CP_plannedShares_25 rfl ?_
      refine tk_iconst (pc := 26) (v := 5) d_CP_plannedShares_26 (by decide) ?_
      refine tk_imul (pc := 27) d_CP_plannedShares_27 ?_
      refine tk_iload (pc := 28) d_CP_plannedShares_28 rfl ?_
      refine tk_iadd (pc := 30) d_CP_plannedShares_30 ?_
      refine tk_iald (pc := 31) (ht*5+i) d_CP_plannedShares_31 rfl (ixma ht 5 i) (by omega) (by decide) ?_
      refine tk_i2l (pc := 32) d_CP_plannedShares_32 ?_
      refine tk_aload_n (pc := 33) d_CP_plannedShares_33 rfl ?_
      refine tk_get (pc := 34) d_CP_plannedShares_34 f_CP_10 rfl rfl ?_
      refine tk_get (pc := 37) d_CP_plannedShares_37 f_CP_135 rfl rfl ?_
      refine tk_iload (pc := 40) d_CP_plannedShares_40 rfl ?_
      refine tk_iald (pc := 42) i d_CP_plannedShares_42 rfl rfl (by omega) (by decide) ?_
      refine tk_i2l (pc := 43) d_CP_plannedShares_43 ?_
      refine tk_lmul (pc := 44) d_CP_plannedShares_44 ?_
      refine tk_lstore7 (pc := 45) d_CP_plannedShares_45 rfl (by decide) ?_
      refine tk_lload (pc := 47) d_CP_plannedShares_47 rfl ?_
      refine tk_lload (pc := 49) d_CP_plannedShares_49 rfl ?_
      refine tk_aload_n (pc := 51) d_CP_plannedShares_51 rfl ?_
      refine tk_iload (pc := 52) d_CP_plannedShares_52 rfl ?_
      refine tk_iconst (pc := 54) (v := 4) d_CP_plannedShares_54 (by decide) ?_
      refine tk_imul (pc := 55) d_CP_plannedShares_55 ?_
      refine tk_iload_n (pc := 56) d_CP_plannedShares_56 rfl ?_
      refine tk_iadd (pc := 57) d_CP_plannedShares_57 ?_
      refine tk_iald (pc := 58) (i*4+e) d_CP_plannedShares_58 rfl (ixma i 4 e) (by omega) (by decide) ?_
      refine tk_i2l (pc := 59) d_CP_plannedShares_59 ?_
      refine tk_lmul (pc := 60) d_CP_plannedShares_60 ?_
      refine tk_ladd (pc := 61) d_CP_plannedShares_61 ?_
      refine tk_lstore4 (pc := 62) d_CP_plannedShares_62 rfl (by decide) ?_
      refine tk_jinc6 (pc := 64) d_CP_plannedShares_64 rfl (by decide) ?_
      refine tk_goto (pc := 67) (tgt := 6) d_CP_plannedShares_67 (by decide) ?_
      exact tk_eq rfl (by rw [inc1]; rfl) rfl rfl (ih (i + 1) _ _ (by omega))
  exact key gn 0 none none (by omega)
theorem m_enough {ht : Nat} (hg : gn < 6) (hh : ht < 4) : tk_M y_CP_enoughLeft w_CP_enoughLeft 0 0 0 [.ref 0, .int (nI ht)] (wd (nI gn, gk, gc, gs, gl, ga, gb) (nI n, lo, hi, ls, hs, mb, pc, bd) p c t) (tk_det (.inl (some (.int (enF gs bd ht gn 0)))) (wd (nI gn, gk, gc, gs, gl, ga, gb) (nI n, lo, hi, ls, hs, mb, pc, bd) p c t)) := by
  refine tk_M.of (lv := [some (.ref 0), some (.int (nI ht)), none]) (by decide) (Nat.le_of_ble_eq_true rfl) rfl ?_
  refine tk_iconst (pc := 0) (v := 0) d_CP_enoughLeft_0 (by decide) ?_
  refine tk_istore2 (pc := 1) d_CP_enoughLeft_1 rfl (by decide) ?_
  have key : ∀ (m i : Nat), i + m = gn → enF gs bd ht m i = enF gs bd ht gn 0 → tk_T y_CP_enoughLeft c_CP_enoughLeft 3 (some .boolean) [] 0 0 0 (fun _ => none) 0 0 (tk_det (.inl (some (.int (enF gs bd ht gn 0)))) (wd (nI gn, gk, gc, gs, gl, ga, gb) (nI n, lo, hi, ls, hs, mb, pc, bd) p c t)) 2 [some (.ref 0), some (.int (nI ht)), some (.int (nI i))] [] (wd (nI gn, gk, gc, gs, gl, ga, gb) (nI n, lo, hi, ls, hs, mb, pc, bd) p c t) := by
    intro m
    induction m with
    | zero =>
      intro i hi' hz
      obtain rfl : i = gn := by omega
      refine tk_iload_n (pc := 2) d_CP_enoughLeft_2 rfl ?_
      refine tk_aload_n (pc := 3) d_CP_enoughLeft_3 rfl ?_
      refine tk_get (pc := 4) d_CP_enoughLeft_4 f_CP_10 rfl rfl ?_
      refine tk_get (pc := 7) d_CP_enoughLeft_7 f_CP_37 rfl rfl ?_
      refine tk_icmp_ge (pc := 10) (tgt := 46) d_CP_enoughLeft_10 (by decide) (fun hb => ?_) (fun hb => ?_)
      · refine tk_iconst (pc := 46) (v := 1) d_CP_enoughLeft_46 (by decide) ?_
        exact tk_ireturn (pc := 47) d_CP_enoughLeft_47 rfl rfl (Nat.le_of_ble_eq_true rfl) (Nat.le_of_ble_eq_true rfl) ⟨by rw [← hz]; rfl, rfl⟩
      · exact absurd ((nI_leI (a := i) (b := i) (by omega) (by omega)).mpr (Nat.le_refl _)) hb
    | succ m ih =>
      intro i hi' hz
      refine tk_iload_n (pc := 2) d_CP_enoughLeft_2 rfl ?_
      refine tk_aload_n (pc := 3) d_CP_enoughLeft_3 rfl ?_
      refine tk_get (pc := 4) d_CP_enoughLeft_4 f_CP_10 rfl rfl ?_
      refine tk_get (pc := 7) d_CP_enoughLeft_7 f_CP_37 rfl rfl ?_
      refine tk_icmp_ge (pc := 10) (tgt := 46) d_CP_enoughLeft_10 (by decide) (fun hb => ?_) (fun hb => ?_)
      · exact absurd ((nI_leI (a := gn) (b := i) (by omega) (by omega)).mp hb) (by omega)
      refine tk_aload_n (pc := 13) d_CP_enoughLeft_13 rfl ?_
      refine tk_get (pc := 14) d_CP_enoughLeft_14 f_CP_10 rfl rfl ?_
      refine tk_get (pc := 17) d_CP_enoughLeft_17 f_CP_75 rfl rfl ?_
      refine tk_iload_n (pc := 20) d_CP_enoughLeft_20 rfl ?_
      refine tk_iald (pc := 21) i d_CP_enoughLeft_21 rfl rfl (by omega) (by decide) ?_
      refine tk_aload_n (pc := 22) d_CP_enoughLeft_22 rfl ?_
      refine tk_get (pc := 23) d_CP_enoughLeft_23 f_CP_19 rfl rfl ?_
      refine tk_get (pc := 26) d_CP_enoughLeft_26 f_CP_118 rfl rfl ?_
      refine tk_iload_n (pc := 29) d_CP_enoughLeft_29 rfl ?_
      refine tk_iconst (pc := 30) (v := 5) d_CP_enoughLeft_30 (by decide) ?_
      refine tk_imul (pc := 31) d_CP_enoughLeft_31 ?_
      refine tk_iload_n (pc := 32) d_CP_enoughLeft_32 rfl ?_
      refine tk_iadd (pc := 33) d_CP_enoughLeft_33 ?_
      refine tk_iald (pc := 34) (ht*5+i) d_CP_enoughLeft_34 rfl (ixma ht 5 i) (by omega) (by decide) ?_
      refine tk_icmp_ge (pc := 35) (tgt := 40) d_CP_enoughLeft_35 (by decide) (fun hc => ?_) (fun hc => ?_)
      · refine tk_jinc2 (pc := 40) d_CP_enoughLeft_40 rfl (by decide) ?_
        refine tk_goto (pc := 43) (tgt := 2) d_CP_enoughLeft_43 (by decide) ?_
        refine tk_eq rfl (by rw [inc1]) rfl rfl (ih (i + 1) (by omega) ?_)
        rw [← hz]
        simp only [enF]
        rw [if_pos (show bd (ht * 5 + i) ≤ gs i from hc)]
      · refine tk_iconst (pc := 38) (v := 0) d_CP_enoughLeft_38 (by decide) ?_
        exact tk_ireturn (pc := 39) d_CP_enoughLeft_39 rfl rfl (Nat.le_of_ble_eq_true rfl) (Nat.le_of_ble_eq_true rfl) ⟨by rw [← hz]; simp only [enF]; rw [if_neg (show ¬ bd (ht * 5 + i) ≤ gs i from hc)], rfl⟩
  exact key gn 0 (by omega) rfl
theorem m_plan_no {i a : Int32} (hi' : i < 0 ∨ ¬ i < nI n) : tk_M y_CP_plan w_CP_plan 10 1 6 [.ref 0, .int i, .int a] (wd (nI gn, gk, gc, gs, gl, ga, gb) (nI n, lo, hi, ls, hs, mb, pc, bd) p c t) (tk_det (.inr eI) (wd (nI gn, gk, gc, gs, gl, ga, gb) (nI n, lo, hi, ls, hs, mb, pc, bd) p c t)) := by
  refine tk_M.of (lv := [some (.ref 0), some (.int i), some (.int a)]) (by decide) (Nat.le_of_ble_eq_true rfl) rfl ?_
  refine tk_iload_n (pc := 0) d_CP_plan_0 rfl ?_
  refine tk_aload_n (pc := 1) d_CP_plan_1 rfl ?_
  refine tk_get (pc := 2) d_CP_plan_2 f_CP_19 rfl rfl ?_
  refine tk_get (pc := 5) d_CP_plan_5 f_CP_81 rfl rfl ?_
  refine tk_callSx (pc := 8) d_CP_plan_8 l_CP_54 k_CP_requireIndex (c_ri_no hi') rfl (by omega) (Nat.le_of_ble_eq_true rfl) (Nat.le_of_ble_eq_true rfl) (Nat.le_of_ble_eq_true rfl) rfl rfl (by simp) ?_
  exact ⟨rfl, rfl⟩
theorem m_plan_bad {i : Nat} {a : Int32} (hi' : i < n) (hn : n < 5) (hb : a < 0 ∨ 100000 < a) : tk_M y_CP_plan w_CP_plan 10 1 6 [.ref 0, .int (nI i), .int a] (wd (nI gn, gk, gc, gs, gl, ga, gb) (nI n, lo, hi, ls, hs, mb, pc, bd) p c t) (tk_det (.inr eA) (wd (nI gn, gk, gc, gs, gl, ga, gb) (nI n, lo, hi, ls, hs, mb, pc, bd) p c t)) := by
  refine tk_M.of (lv := [some (.ref 0), some (.int (nI i)), some (.int a)]) (by decide) (Nat.le_of_ble_eq_true rfl) rfl ?_
  refine tk_iload_n (pc := 0) d_CP_plan_0 rfl ?_
  refine tk_aload_n (pc := 1) d_CP_plan_1 rfl ?_
  refine tk_get (pc := 2) d_CP_plan_2 f_CP_19 rfl rfl ?_
  refine tk_get (pc := 5) d_CP_plan_5 f_CP_81 rfl rfl ?_
  refine tk_callSr (pc := 8) d_CP_plan_8 l_CP_54 k_CP_requireIndex (c_ri_ok (nI_pos (by omega)) (nI_lt hi' (by omega))) rfl (by omega) (Nat.le_of_ble_eq_true rfl) (Nat.le_of_ble_eq_true rfl) (Nat.le_of_ble_eq_true rfl) rfl rfl ?_
  refine tk_iload_n (pc := 11) d_CP_plan_11 rfl ?_
  refine tk_iconst (pc := 12) (v := 0) d_CP_plan_12 (by decide) ?_
  refine tk_ldc (pc := 13) d_CP_plan_13 q_CP_49 ?_
  refine tk_callSx (pc := 15) d_CP_plan_15 l_CP_45 k_CP_requireRange (c_rr_no hb) rfl (by omega) (Nat.le_of_ble_eq_true rfl) (Nat.le_of_ble_eq_true rfl) (Nat.le_of_ble_eq_true rfl) rfl rfl (by simp) ?_
  exact ⟨rfl, rfl⟩
/-- what a planning of heat ht with al steps comes to -/
def plX (g : sG) (h : sH) (gn : Nat) (R : Nat → Nat) (ht : Nat) (al : Int32) (sb f ch be : Ar) : sT := tryF gn R (pbf g h ht sb gn) al gn 0 (ldR f h ht, ch, be, -1, 0, 0)
theorem m_plan_ok {sn : Int32} {sr sb f ch be : Ar} {q : Int32 × Int32 × Int32 × Int32 × Int32} {R : Nat → Nat} {i : Nat} {a : Int32} {X : sT} (hg : gn < 6) (hi' : i < n) (hn : n < 5) (hb : ¬ (a < 0 ∨ 100000 < a)) (hR : ∀ k, k < gn → rmin (nI gn, gk, gc, gs, gl, ga, gb) k = nI (R k) ∧ R k < 100)
    (hX : plX (nI gn, gk, gc, gs, gl, ga, gb) (nI n, lo, hi, ls, hs, mb, pc, bd) gn R i a sb f ch be = X) :
    tk_M y_CP_plan w_CP_plan 10 1 6 [.ref 0, .int (nI i), .int a] (wd (nI gn, gk, gc, gs, gl, ga, gb) (nI n, lo, hi, ls, hs, mb, pc, bd) ((sn, sr, sb, f), ch, be, q) c t)
      (tk_det (.inl (some (.int X.2.2.2.1))) (wP (nI gn, gk, gc, gs, gl, ga, gb) (nI n, lo, hi, ls, hs, mb, upd pc i X.2.2.2.1, cpf bd X.2.2.1 (i * 5) 5) gn (rmf (nI gn, gk, gc, gs, gl, ga, gb) sr gn) (pbf (nI gn, gk, gc, gs, gl, ga, gb) (nI n, lo, hi, ls, hs, mb, pc, bd) i sb gn) a 1 c t X)) := by
  refine tk_M.of (lv := [some (.ref 0), some (.int (nI i)), some (.int a)]) (by decide) (Nat.le_of_ble_eq_true rfl) rfl ?_
  refine tk_iload_n (pc := 0) d_CP_plan_0 rfl ?_
  refine tk_aload_n (pc := 1) d_CP_plan_1 rfl ?_
  refine tk_get (pc := 2) d_CP_plan_2 f_CP_19 rfl rfl ?_
  refine tk_get (pc := 5) d_CP_plan_5 f_CP_81 rfl rfl ?_
  refine tk_callSr (pc := 8) d_CP_plan_8 l_CP_54 k_CP_requireIndex (c_ri_ok (nI_pos (by omega)) (nI_lt hi' (by omega))) rfl (by omega) (Nat.le_of_ble_eq_true rfl) (Nat.le_of_ble_eq_true rfl) (Nat.le_of_ble_eq_true rfl) rfl rfl ?_
  refine tk_iload_n (pc := 11) d_CP_plan_11 rfl ?_
  refine tk_iconst (pc := 12) (v := 0) d_CP_plan_12 (by decide) ?_
  refine tk_ldc (pc := 13) d_CP_plan_13 q_CP_49 ?_
  refine tk_callSr (pc := 15) d_CP_plan_15 l_CP_45 k_CP_requireRange (c_rr_ok (fun z => hb (Or.inl z)) (fun z => hb (Or.inr z))) rfl (by omega) (Nat.le_of_ble_eq_true rfl) (Nat.le_of_ble_eq_true rfl) (Nat.le_of_ble_eq_true rfl) rfl rfl ?_
  refine tk_aload_n (pc := 18) d_CP_plan_18 rfl ?_
  refine tk_get (pc := 19) d_CP_plan_19 f_CP_26 rfl rfl ?_
  refine tk_aload_n (pc := 22) d_CP_plan_22 rfl ?_
  refine tk_get (pc := 23) d_CP_plan_23 f_CP_10 rfl rfl ?_
  refine tk_aload_n (pc := 26) d_CP_plan_26 rfl ?_
  refine tk_get (pc := 27) d_CP_plan_27 f_CP_19 rfl rfl ?_
  refine tk_iload_n (pc := 30) d_CP_plan_30 rfl ?_
  refine tk_iload_n (pc := 31) d_CP_plan_31 rfl ?_
  refine tk_callVr (pc := 32) d_CP_plan_32 l_CP_90 k_P_search rfl rfl rfl (m_search (gn := gn) (gt := (gk, gc, gs, gl, ga, gb)) (R := R) (ht := i) (al := a) (f := f) hg (by omega) hR) rfl (by omega) (Nat.le_of_ble_eq_true rfl) (Nat.le_of_ble_eq_true rfl) (Nat.le_of_ble_eq_true rfl) rfl rfl ?_
  refine tk_ww (wP (nI gn, gk, gc, gs, gl, ga, gb) (nI n, lo, hi, ls, hs, mb, pc, bd) gn (rmf (nI gn, gk, gc, gs, gl, ga, gb) sr gn) (pbf (nI gn, gk, gc, gs, gl, ga, gb) (nI n, lo, hi, ls, hs, mb, pc, bd) i sb gn) a 1 c t X) (by rw [← hX]; rfl) ?_
  refine tk_aload_n (pc := 35) d_CP_plan_35 rfl ?_
  refine tk_get (pc := 36) d_CP_plan_36 f_CP_19 rfl rfl ?_
  refine tk_iload_n (pc := 39) d_CP_plan_39 rfl ?_
  refine tk_aload_n (pc := 40) d_CP_plan_40 rfl ?_
  refine tk_get (pc := 41) d_CP_plan_41 f_CP_26 rfl rfl ?_
  refine tk_get (pc := 44) d_CP_plan_44 f_CP_94 rfl rfl ?_
  refine tk_aload_n (pc := 47) d_CP_plan_47 rfl ?_
  refine tk_get (pc := 48) d_CP_plan_48 f_CP_26 rfl rfl ?_
  refine tk_get (pc := 51) d_CP_plan_51 f_CP_97 rfl rfl ?_
  refine tk_callVr (pc := 54) d_CP_plan_54 l_CP_100 k_H_keepPlan rfl rfl rfl (m_H_keepPlan (k := i) (v := X.2.2.2.1) (by omega)) rfl (by omega) (Nat.le_of_ble_eq_true rfl) (Nat.le_of_ble_eq_true rfl) (Nat.le_of_ble_eq_true rfl) rfl rfl ?_
  refine tk_aload_n (pc := 57) d_CP_plan_57 rfl ?_
  refine tk_get (pc := 58) d_CP_plan_58 f_CP_26 rfl rfl ?_
  refine tk_get (pc := 61) d_CP_plan_61 f_CP_97 rfl rfl ?_
  exact tk_ireturn (pc := 64) d_CP_plan_64 rfl rfl (Nat.le_of_ble_eq_true rfl) (Nat.le_of_ble_eq_true rfl) ⟨rfl, rfl⟩
theorem m_planned_no {g : sG} {h : sH} {a : Int32} (hi' : a < 0 ∨ ¬ a < 2) : tk_M y_CP_planned w_CP_planned 10 1 6 [.ref 0, .int a] (wd g h p c t) (tk_det (.inr eI) (wd g h p c t)) := by
  refine tk_M.of (lv := [some (.ref 0), some (.int a)]) (by decide) (Nat.le_of_ble_eq_true rfl) rfl ?_
  refine tk_iload_n (pc := 0) d_CP_planned_0 rfl ?_
  refine tk_iconst (pc := 1) (v := 2) d_CP_planned_1 (by decide) ?_
  refine tk_callSx (pc := 2) d_CP_planned_2 l_CP_54 k_CP_requireIndex (c_ri_no hi') rfl (by omega) (Nat.le_of_ble_eq_true rfl) (Nat.le_of_ble_eq_true rfl) (Nat.le_of_ble_eq_true rfl) rfl rfl (by simp) ?_
  exact ⟨rfl, rfl⟩
theorem m_planned_turn {g : sG} {h : sH} {s : sS} {ch be : Ar} {bc al st sp : Int32} {a : Int32} (h0 : ¬ a < 0) (h1 : a < 2) : tk_M y_CP_planned w_CP_planned 10 1 6 [.ref 0, .int a] (wd g h (s, ch, be, bc, al, st, sp, 0) c t) (tk_det (.inr eS) (wd g h (s, ch, be, bc, al, st, sp, 0) c t)) := by
  refine tk_M.of (lv := [some (.ref 0), some (.int a)]) (by decide) (Nat.le_of_ble_eq_true rfl) rfl ?_
  refine tk_iload_n (pc := 0) d_CP_planned_0 rfl ?_
  refine tk_iconst (pc := 1) (v := 2) d_CP_planned_1 (by decide) ?_
  refine tk_callSr (pc := 2) d_CP_planned_2 l_CP_54 k_CP_requireIndex (c_ri_ok h0 h1) rfl (by omega) (Nat.le_of_ble_eq_true rfl) (Nat.le_of_ble_eq_true rfl) (Nat.le_of_ble_eq_true rfl) rfl rfl ?_
  refine tk_aload_n (pc := 5) d_CP_planned_5 rfl ?_
  refine tk_get (pc := 6) d_CP_planned_6 f_CP_26 rfl rfl ?_
  refine tk_get (pc := 9) d_CP_planned_9 f_CP_104 rfl rfl ?_
  refine tk_callSx (pc := 12) d_CP_planned_12 l_CP_41 k_CP_requireTurn (c_rt_no) rfl (by omega) (Nat.le_of_ble_eq_true rfl) (Nat.le_of_ble_eq_true rfl) (Nat.le_of_ble_eq_true rfl) rfl rfl (by simp) ?_
  exact ⟨rfl, rfl⟩
theorem m_planned_ok {g : sG} {h : sH} {s : sS} {ch be : Ar} {bc al st sp : Int32} {a : Int32} (h0 : ¬ a < 0) (h1 : a < 2) : tk_M y_CP_planned w_CP_planned 10 1 6 [.ref 0, .int a] (wd g h (s, ch, be, bc, al, st, sp, 1) c t) (tk_det (.inl (some (.int (if a = 1 then st else if sp = 0 then 0 else 1)))) (wd g h (s, ch, be, bc, al, st, sp, 1) c t)) := by
  refine tk_M.of (lv := [some (.ref 0), some (.int a)]) (by decide) (Nat.le_of_ble_eq_true rfl) rfl ?_
  refine tk_iload_n (pc := 0) d_CP_planned_0 rfl ?_
  refine tk_iconst (pc := 1) (v := 2) d_CP_planned_1 (by decide) ?_
  refine tk_callSr (pc := 2) d_CP_planned_2 l_CP_54 k_CP_requireIndex (c_ri_ok h0 h1) rfl (by omega) (Nat.le_of_ble_eq_true rfl) (Nat.le_of_ble_eq_true rfl) (Nat.le_of_ble_eq_true rfl) rfl rfl ?_
  refine tk_aload_n (pc := 5) d_CP_planned_5 rfl ?_
  refine tk_get (pc := 6) d_CP_planned_6 f_CP_26 rfl rfl ?_
  refine tk_get (pc := 9) d_CP_planned_9 f_CP_104 rfl rfl ?_
  refine tk_callSr (pc := 12) d_CP_planned_12 l_CP_41 k_CP_requireTurn (c_rt_ok (b := 1) (by decide)) rfl (by omega) (Nat.le_of_ble_eq_true rfl) (Nat.le_of_ble_eq_true rfl) (Nat.le_of_ble_eq_true rfl) rfl rfl ?_
  refine tk_iload_n (pc := 15) d_CP_planned_15 rfl ?_
  refine tk_iconst (pc := 16) (v := 1) d_CP_planned_16 (by decide) ?_
  refine tk_icmp_ne (pc := 17) (tgt := 28) d_CP_planned_17 (by decide) (fun hb => ?_) (fun hb => ?_)
  · refine tk_aload_n (pc := 28) d_CP_planned_28 rfl ?_
    refine tk_get (pc := 29) d_CP_planned_29 f_CP_26 rfl rfl ?_
    refine tk_get (pc := 32) d_CP_planned_32 f_CP_111 rfl rfl ?_
    refine tk_if_eq (pc := 35) (tgt := 42) d_CP_planned_35 (by decide) (fun hc => ?_) (fun hc => ?_)
    · refine tk_iconst (pc := 42) (v := 0) d_CP_planned_42 (by decide) ?_
      exact tk_ireturn (pc := 43) d_CP_planned_43 rfl rfl (Nat.le_of_ble_eq_true rfl) (Nat.le_of_ble_eq_true rfl) ⟨by rw [if_neg hb, if_pos hc], rfl⟩
    · refine tk_iconst (pc := 38) (v := 1) d_CP_planned_38 (by decide) ?_
      refine tk_goto (pc := 39) (tgt := 43) d_CP_planned_39 (by decide) ?_
      exact tk_ireturn (pc := 43) d_CP_planned_43 rfl rfl (Nat.le_of_ble_eq_true rfl) (Nat.le_of_ble_eq_true rfl) ⟨by rw [if_neg hb, if_neg hc], rfl⟩
  · refine tk_aload_n (pc := 20) d_CP_planned_20 rfl ?_
    refine tk_get (pc := 21) d_CP_planned_21 f_CP_26 rfl rfl ?_
    refine tk_get (pc := 24) d_CP_planned_24 f_CP_108 rfl rfl ?_
    exact tk_ireturn (pc := 27) d_CP_planned_27 rfl rfl (Nat.le_of_ble_eq_true rfl) (Nat.le_of_ble_eq_true rfl) ⟨by rw [if_pos hb], rfl⟩
theorem m_amount_no {i k : Int32} (hi' : (i < 0 ∨ ¬ i < nI n) ∨ (k < 0 ∨ ¬ k < nI gn)) : tk_M y_CP_amount w_CP_amount 10 1 6 [.ref 0, .int i, .int k] (wd (nI gn, gk, gc, gs, gl, ga, gb) (nI n, lo, hi, ls, hs, mb, pc, bd) p c t) (tk_det (.inr eI) (wd (nI gn, gk, gc, gs, gl, ga, gb) (nI n, lo, hi, ls, hs, mb, pc, bd) p c t)) := by
  refine tk_M.of (lv := [some (.ref 0), some (.int i), some (.int k)]) (by decide) (Nat.le_of_ble_eq_true rfl) rfl ?_
  refine tk_iload_n (pc := 0) d_CP_amount_0 rfl ?_
  refine tk_aload_n (pc := 1) d_CP_amount_1 rfl ?_
  refine tk_get (pc := 2) d_CP_amount_2 f_CP_19 rfl rfl ?_
  refine tk_get (pc := 5) d_CP_amount_5 f_CP_81 rfl rfl ?_
  by_cases h1 : i < 0 ∨ ¬ i < nI n
  · refine tk_callSx (pc := 8) d_CP_amount_8 l_CP_54 k_CP_requireIndex (c_ri_no h1) rfl (by omega) (Nat.le_of_ble_eq_true rfl) (Nat.le_of_ble_eq_true rfl) (Nat.le_of_ble_eq_true rfl) rfl rfl (by simp) ?_
    exact ⟨rfl, rfl⟩
  refine tk_callSr (pc := 8) d_CP_amount_8 l_CP_54 k_CP_requireIndex (c_ri_ok (fun z => h1 (Or.inl z)) (Classical.not_not.mp (fun z => h1 (Or.inr z)))) rfl (by omega) (Nat.le_of_ble_eq_true rfl) (Nat.le_of_ble_eq_true rfl) (Nat.le_of_ble_eq_true rfl) rfl rfl ?_
  refine tk_iload_n (pc := 11) d_CP_amount_11 rfl ?_
  refine tk_aload_n (pc := 12) d_CP_amount_12 rfl ?_
  refine tk_get (pc := 13) d_CP_amount_13 f_CP_10 rfl rfl ?_
  refine tk_get (pc := 16) d_CP_amount_16 f_CP_37 rfl rfl ?_
  refine tk_callSx (pc := 19) d_CP_amount_19 l_CP_54 k_CP_requireIndex (c_ri_no (hi'.resolve_left h1)) rfl (by omega) (Nat.le_of_ble_eq_true rfl) (Nat.le_of_ble_eq_true rfl) (Nat.le_of_ble_eq_true rfl) rfl rfl (by simp) ?_
  exact ⟨rfl, rfl⟩
theorem m_amount_turn {i k : Nat} (hi' : i < n) (hn : n < 5) (hk : k < gn) (hg : gn < 6) (hp : pc i = -1) : tk_M y_CP_amount w_CP_amount 10 1 6 [.ref 0, .int (nI i), .int (nI k)] (wd (nI gn, gk, gc, gs, gl, ga, gb) (nI n, lo, hi, ls, hs, mb, pc, bd) p c t) (tk_det (.inr eS) (wd (nI gn, gk, gc, gs, gl, ga, gb) (nI n, lo, hi, ls, hs, mb, pc, bd) p c t)) := by
  refine tk_M.of (lv := [some (.ref 0), some (.int (nI i)), some (.int (nI k))]) (by decide) (Nat.le_of_ble_eq_true rfl) rfl ?_
  refine tk_iload_n (pc := 0) d_CP_amount_0 rfl ?_
  refine tk_aload_n (pc := 1) d_CP_amount_1 rfl ?_
  refine tk_get (pc := 2) d_CP_amount_2 f_CP_19 rfl rfl ?_
  refine tk_get (pc := 5) d_CP_amount_5 f_CP_81 rfl rfl ?_
  refine tk_callSr (pc := 8) d_CP_amount_8 l_CP_54 k_CP_requireIndex (c_ri_ok (nI_pos (by omega)) (nI_lt hi' (by omega))) rfl (by omega) (Nat.le_of_ble_eq_true rfl) (Nat.le_of_ble_eq_true rfl) (Nat.le_of_ble_eq_true rfl) rfl rfl ?_
  refine tk_iload_n (pc := 11) d_CP_amount_11 rfl ?_
  refine tk_aload_n (pc := 12) d_CP_amount_12 rfl ?_
  refine tk_get (pc := 13) d_CP_amount_13 f_CP_10 rfl rfl ?_
  refine tk_get (pc := 16) d_CP_amount_16 f_CP_37 rfl rfl ?_
  refine tk_callSr (pc := 19) d_CP_amount_19 l_CP_54 k_CP_requireIndex (c_ri_ok (nI_pos (by omega)) (nI_lt hk (by omega))) rfl (by omega) (Nat.le_of_ble_eq_true rfl) (Nat.le_of_ble_eq_true rfl) (Nat.le_of_ble_eq_true rfl) rfl rfl ?_
  refine tk_aload_n (pc := 22) d_CP_amount_22 rfl ?_
  refine tk_get (pc := 23) d_CP_amount_23 f_CP_19 rfl rfl ?_
  refine tk_iload_n (pc := 26) d_CP_amount_26 rfl ?_
  refine tk_callVr (pc := 27) d_CP_amount_27 l_CP_114 k_H_hasPlan rfl rfl rfl (m_H_hasPlan (k := i) (by omega)) rfl (by omega) (Nat.le_of_ble_eq_true rfl) (Nat.le_of_ble_eq_true rfl) (Nat.le_of_ble_eq_true rfl) rfl rfl ?_
  rw [if_pos (show pc i = -1 from hp)]
  refine tk_callSx (pc := 30) d_CP_amount_30 l_CP_41 k_CP_requireTurn (c_rt_no) rfl (by omega) (Nat.le_of_ble_eq_true rfl) (Nat.le_of_ble_eq_true rfl) (Nat.le_of_ble_eq_true rfl) rfl rfl (by simp) ?_
  exact ⟨rfl, rfl⟩
theorem m_amount_ok {i k : Nat} (hi' : i < n) (hn : n < 5) (hk : k < gn) (hg : gn < 6) (hp : ¬ pc i = -1) : tk_M y_CP_amount w_CP_amount 10 1 6 [.ref 0, .int (nI i), .int (nI k)] (wd (nI gn, gk, gc, gs, gl, ga, gb) (nI n, lo, hi, ls, hs, mb, pc, bd) p c t) (tk_det (.inl (some (.int (bd (i * 5 + k))))) (wd (nI gn, gk, gc, gs, gl, ga, gb) (nI n, lo, hi, ls, hs, mb, pc, bd) p c t)) := by
  refine tk_M.of (lv := [some (.ref 0), some (.int (nI i)), some (.int (nI k))]) (by decide) (Nat.le_of_ble_eq_true rfl) rfl ?_
  refine tk_iload_n (pc := 0) d_CP_amount_0 rfl ?_
  refine tk_aload_n (pc := 1) d_CP_amount_1 rfl ?_
  refine tk_get (pc := 2) d_CP_amount_2 f_CP_19 rfl rfl ?_
  refine tk_get (pc := 5) d_CP_amount_5 f_CP_81 rfl rfl ?_
  refine tk_callSr (pc := 8) d_CP_amount_8 l_CP_54 k_CP_requireIndex (c_ri_ok (nI_pos (by omega)) (nI_lt hi' (by omega))) rfl (by omega) (Nat.le_of_ble_eq_true rfl) (Nat.le_of_ble_eq_true rfl) (Nat.le_of_ble_eq_true rfl) rfl rfl ?_
  refine tk_iload_n (pc := 11) d_CP_amount_11 rfl ?_
  refine tk_aload_n (pc := 12) d_CP_amount_12 rfl ?_
  refine tk_get (pc := 13) d_CP_amount_13 f_CP_10 rfl rfl ?_
  refine tk_get (pc := 16) d_CP_amount_16 f_CP_37 rfl rfl ?_
  refine tk_callSr (pc := 19) d_CP_amount_19 l_CP_54 k_CP_requireIndex (c_ri_ok (nI_pos (by omega)) (nI_lt hk (by omega))) rfl (by omega) (Nat.le_of_ble_eq_true rfl) (Nat.le_of_ble_eq_true rfl) (Nat.le_of_ble_eq_true rfl) rfl rfl ?_
  refine tk_aload_n (pc := 22) d_CP_amount_22 rfl ?_
  refine tk_get (pc := 23) d_CP_amount_23 f_CP_19 rfl rfl ?_
  refine tk_iload_n (pc := 26) d_CP_amount_26 rfl ?_
  refine tk_callVr (pc := 27) d_CP_amount_27 l_CP_114 k_H_hasPlan rfl rfl rfl (m_H_hasPlan (k := i) (by omega)) rfl (by omega) (Nat.le_of_ble_eq_true rfl) (Nat.le_of_ble_eq_true rfl) (Nat.le_of_ble_eq_true rfl) rfl rfl ?_
  rw [if_neg (show ¬ pc i = -1 from hp)]
  refine tk_callSr (pc := 30) d_CP_amount_30 l_CP_41 k_CP_requireTurn (c_rt_ok (b := 1) (by decide)) rfl (by omega) (Nat.le_of_ble_eq_true rfl) (Nat.le_of_ble_eq_true rfl) (Nat.le_of_ble_eq_true rfl) rfl rfl ?_
  refine tk_aload_n (pc := 33) d_CP_amount_33 rfl ?_
  refine tk_get (pc := 34) d_CP_amount_34 f_CP_19 rfl rfl ?_
  refine tk_get (pc := 37) d_CP_amount_37 f_CP_118 rfl rfl ?_
  refine tk_iload_n (pc := 40) d_CP_amount_40 rfl ?_
  refine tk_iconst (pc := 41) (v := 5) d_CP_amount_41 (by decide) ?_
  refine tk_imul (pc := 42) d_CP_amount_42 ?_
  refine tk_iload_n (pc := 43) d_CP_amount_43 rfl ?_
  refine tk_iadd (pc := 44) d_CP_amount_44 ?_
  refine tk_iald (pc := 45) (i*5+k) d_CP_amount_45 rfl (ixma i 5 k) (by omega) (by decide) ?_
  exact tk_ireturn (pc := 46) d_CP_amount_46 rfl rfl (Nat.le_of_ble_eq_true rfl) (Nat.le_of_ble_eq_true rfl) ⟨rfl, rfl⟩
theorem m_clash_no {i : Int32} (hi' : i < 0 ∨ ¬ i < nI n) : tk_M y_CP_clash w_CP_clash 10 1 6 [.ref 0, .int i] (wd (nI gn, gk, gc, gs, gl, ga, gb) (nI n, lo, hi, ls, hs, mb, pc, bd) p c t) (tk_det (.inr eI) (wd (nI gn, gk, gc, gs, gl, ga, gb) (nI n, lo, hi, ls, hs, mb, pc, bd) p c t)) := by
  refine tk_M.of (lv := [some (.ref 0), some (.int i)]) (by decide) (Nat.le_of_ble_eq_true rfl) rfl ?_
  refine tk_iload_n (pc := 0) d_CP_clash_0 rfl ?_
  refine tk_aload_n (pc := 1) d_CP_clash_1 rfl ?_
  refine tk_get (pc := 2) d_CP_clash_2 f_CP_19 rfl rfl ?_
  refine tk_get (pc := 5) d_CP_clash_5 f_CP_81 rfl rfl ?_
  refine tk_callSx (pc := 8) d_CP_clash_8 l_CP_54 k_CP_requireIndex (c_ri_no hi') rfl (by omega) (Nat.le_of_ble_eq_true rfl) (Nat.le_of_ble_eq_true rfl) (Nat.le_of_ble_eq_true rfl) rfl rfl (by simp) ?_
  exact ⟨rfl, rfl⟩
theorem m_clash_ok {sn : Int32} {sr sb f : Ar} {s : Nat → Int64} {ah : Int32} {R : Nat → Nat} {i : Nat} (hg : gn < 6) (hi' : i < n) (hn : n < 5) (hR : ∀ k, k < gn → rmin (nI gn, gk, gc, gs, gl, ga, gb) k = nI (R k) ∧ R k < 100) :
    tk_M y_CP_clash w_CP_clash 10 1 6 [.ref 0, .int (nI i)] (wd (nI gn, gk, gc, gs, gl, ga, gb) (nI n, lo, hi, ls, hs, mb, pc, bd) p ((sn, sr, sb, f), s, ah) t)
      (tk_det (.inl (some (.int (if (fndW gn (gk, gc, gs, gl, ga, gb) (nI n, lo, hi, ls, hs, mb, pc, bd) R i sb f s).2.2 = 0 then lft (fndW gn (gk, gc, gs, gl, ga, gb) (nI n, lo, hi, ls, hs, mb, pc, bd) R i sb f s).2.1 11 else 0)))) (wC (nI gn, gk, gc, gs, gl, ga, gb) (nI n, lo, hi, ls, hs, mb, pc, bd) p gn (rmf (nI gn, gk, gc, gs, gl, ga, gb) sr gn) (pbf (nI gn, gk, gc, gs, gl, ga, gb) (nI n, lo, hi, ls, hs, mb, pc, bd) i sb gn) t (fndW gn (gk, gc, gs, gl, ga, gb) (nI n, lo, hi, ls, hs, mb, pc, bd) R i sb f s))) := by
  refine tk_M.of (lv := [some (.ref 0), some (.int (nI i))]) (by decide) (Nat.le_of_ble_eq_true rfl) rfl ?_
  refine tk_iload_n (pc := 0) d_CP_clash_0 rfl ?_
  refine tk_aload_n (pc := 1) d_CP_clash_1 rfl ?_
  refine tk_get (pc := 2) d_CP_clash_2 f_CP_19 rfl rfl ?_
  refine tk_get (pc := 5) d_CP_clash_5 f_CP_81 rfl rfl ?_
  refine tk_callSr (pc := 8) d_CP_clash_8 l_CP_54 k_CP_requireIndex (c_ri_ok (nI_pos (by omega)) (nI_lt hi' (by omega))) rfl (by omega) (Nat.le_of_ble_eq_true rfl) (Nat.le_of_ble_eq_true rfl) (Nat.le_of_ble_eq_true rfl) rfl rfl ?_
  refine tk_aload_n (pc := 11) d_CP_clash_11 rfl ?_
  refine tk_get (pc := 12) d_CP_clash_12 f_CP_33 rfl rfl ?_
  refine tk_aload_n (pc := 15) d_CP_clash_15 rfl ?_
  refine tk_get (pc := 16) d_CP_clash_16 f_CP_10 rfl rfl ?_
  refine tk_aload_n (pc := 19) d_CP_clash_19 rfl ?_
  refine tk_get (pc := 20) d_CP_clash_20 f_CP_19 rfl rfl ?_
  refine tk_iload_n (pc := 23) d_CP_clash_23 rfl ?_
  refine tk_callVr (pc := 24) d_CP_clash_24 l_CP_153 k_C_find rfl rfl rfl (m_find (gn := gn) (gt := (gk, gc, gs, gl, ga, gb)) (R := R) (ht := i) (f := f) hg (by omega) hR) rfl (by omega) (Nat.le_of_ble_eq_true rfl) (Nat.le_of_ble_eq_true rfl) (Nat.le_of_ble_eq_true rfl) rfl rfl ?_
  exact tk_ireturn (pc := 27) d_CP_clash_27 rfl rfl (Nat.le_of_ble_eq_true rfl) (Nat.le_of_ble_eq_true rfl) ⟨rfl, rfl⟩
theorem m_take_no {i : Int32} (hi' : i < 0 ∨ ¬ i < nI n) : tk_M y_CP_take w_CP_take 10 1 6 [.ref 0, .int i] (wd (nI gn, gk, gc, gs, gl, ga, gb) (nI n, lo, hi, ls, hs, mb, pc, bd) p c t) (tk_det (.inr eI) (wd (nI gn, gk, gc, gs, gl, ga, gb) (nI n, lo, hi, ls, hs, mb, pc, bd) p c t)) := by
  refine tk_M.of (lv := [some (.ref 0), some (.int i), none]) (by decide) (Nat.le_of_ble_eq_true rfl) rfl ?_
  refine tk_iload_n (pc := 0) d_CP_take_0 rfl ?_
  refine tk_aload_n (pc := 1) d_CP_take_1 rfl ?_
  refine tk_get (pc := 2) d_CP_take_2 f_CP_19 rfl rfl ?_
  refine tk_get (pc := 5) d_CP_take_5 f_CP_81 rfl rfl ?_
  refine tk_callSx (pc := 8) d_CP_take_8 l_CP_54 k_CP_requireIndex (c_ri_no hi') rfl (by omega) (Nat.le_of_ble_eq_true rfl) (Nat.le_of_ble_eq_true rfl) (Nat.le_of_ble_eq_true rfl) rfl rfl (by simp) ?_
  exact ⟨rfl, rfl⟩
theorem m_take_turn {i : Nat} (hi' : i < n) (hn : n < 5) (hp : pc i = -1) : tk_M y_CP_take w_CP_take 10 1 6 [.ref 0, .int (nI i)] (wd (nI gn, gk, gc, gs, gl, ga, gb) (nI n, lo, hi, ls, hs, mb, pc, bd) p c t) (tk_det (.inr eS) (wd (nI gn, gk, gc, gs, gl, ga, gb) (nI n, lo, hi, ls, hs, mb, pc, bd) p c t)) := by
  refine tk_M.of (lv := [some (.ref 0), some (.int (nI i)), none]) (by decide) (Nat.le_of_ble_eq_true rfl) rfl ?_
  refine tk_iload_n (pc := 0) d_CP_take_0 rfl ?_
  refine tk_aload_n (pc := 1) d_CP_take_1 rfl ?_
  refine tk_get (pc := 2) d_CP_take_2 f_CP_19 rfl rfl ?_
  refine tk_get (pc := 5) d_CP_take_5 f_CP_81 rfl rfl ?_
  refine tk_callSr (pc := 8) d_CP_take_8 l_CP_54 k_CP_requireIndex (c_ri_ok (nI_pos (by omega)) (nI_lt hi' (by omega))) rfl (by omega) (Nat.le_of_ble_eq_true rfl) (Nat.le_of_ble_eq_true rfl) (Nat.le_of_ble_eq_true rfl) rfl rfl ?_
  refine tk_aload_n (pc := 11) d_CP_take_11 rfl ?_
  refine tk_get (pc := 12) d_CP_take_12 f_CP_19 rfl rfl ?_
  refine tk_iload_n (pc := 15) d_CP_take_15 rfl ?_
  refine tk_callVr (pc := 16) d_CP_take_16 l_CP_114 k_H_hasPlan rfl rfl rfl (m_H_hasPlan (k := i) (by omega)) rfl (by omega) (Nat.le_of_ble_eq_true rfl) (Nat.le_of_ble_eq_true rfl) (Nat.le_of_ble_eq_true rfl) rfl rfl ?_
  rw [if_pos (show pc i = -1 from hp)]
  refine tk_callSx (pc := 19) d_CP_take_19 l_CP_41 k_CP_requireTurn (c_rt_no) rfl (by omega) (Nat.le_of_ble_eq_true rfl) (Nat.le_of_ble_eq_true rfl) (Nat.le_of_ble_eq_true rfl) rfl rfl (by simp) ?_
  exact ⟨rfl, rfl⟩
theorem m_take_few {i : Nat} (hi' : i < n) (hn : n < 5) (hg : gn < 6) (hp : ¬ pc i = -1) (hf : enF gs bd i gn 0 = 0) : tk_M y_CP_take w_CP_take 10 1 6 [.ref 0, .int (nI i)] (wd (nI gn, gk, gc, gs, gl, ga, gb) (nI n, lo, hi, ls, hs, mb, pc, bd) p c t) (tk_det (.inr eU) (wd (nI gn, gk, gc, gs, gl, ga, gb) (nI n, lo, hi, ls, hs, mb, pc, bd) p c t)) := by
  refine tk_M.of (lv := [some (.ref 0), some (.int (nI i)), none]) (by decide) (Nat.le_of_ble_eq_true rfl) rfl ?_
  refine tk_iload_n (pc := 0) d_CP_take_0 rfl ?_
  refine tk_aload_n (pc := 1) d_CP_take_1 rfl ?_
  refine tk_get (pc := 2) d_CP_take_2 f_CP_19 rfl rfl ?_
  refine tk_get (pc := 5) d_CP_take_5 f_CP_81 rfl rfl ?_
  refine tk_callSr (pc := 8) d_CP_take_8 l_CP_54 k_CP_requireIndex (c_ri_ok (nI_pos (by omega)) (nI_lt hi' (by omega))) rfl (by omega) (Nat.le_of_ble_eq_true rfl) (Nat.le_of_ble_eq_true rfl) (Nat.le_of_ble_eq_true rfl) rfl rfl ?_
  refine tk_aload_n (pc := 11) d_CP_take_11 rfl ?_
  refine tk_get (pc := 12) d_CP_take_12 f_CP_19 rfl rfl ?_
  refine tk_iload_n (pc := 15) d_CP_take_15 rfl ?_
  refine tk_callVr (pc := 16) d_CP_take_16 l_CP_114 k_H_hasPlan rfl rfl rfl (m_H_hasPlan (k := i) (by omega)) rfl (by omega) (Nat.le_of_ble_eq_true rfl) (Nat.le_of_ble_eq_true rfl) (Nat.le_of_ble_eq_true rfl) rfl rfl ?_
  rw [if_neg (show ¬ pc i = -1 from hp)]
  refine tk_callSr (pc := 19) d_CP_take_19 l_CP_41 k_CP_requireTurn (c_rt_ok (b := 1) (by decide)) rfl (by omega) (Nat.le_of_ble_eq_true rfl) (Nat.le_of_ble_eq_true rfl) (Nat.le_of_ble_eq_true rfl) rfl rfl ?_
  refine tk_aload_n (pc := 22) d_CP_take_22 rfl ?_
  refine tk_iload_n (pc := 23) d_CP_take_23 rfl ?_
  refine tk_callVr (pc := 24) d_CP_take_24 l_CP_157 k_CP_enoughLeft rfl rfl rfl (m_enough (ht := i) hg (by omega)) rfl (by omega) (Nat.le_of_ble_eq_true rfl) (Nat.le_of_ble_eq_true rfl) (Nat.le_of_ble_eq_true rfl) rfl rfl ?_
  rw [hf]
  refine tk_callSx (pc := 27) d_CP_take_27 l_CP_78 k_CP_requireMeaning (c_rm_no) rfl (by omega) (Nat.le_of_ble_eq_true rfl) (Nat.le_of_ble_eq_true rfl) (Nat.le_of_ble_eq_true rfl) rfl rfl (by simp) ?_
  exact ⟨rfl, rfl⟩
theorem m_take_ok {i : Nat} (hi' : i < n) (hn : n < 5) (hg : gn < 6) (hp : ¬ pc i = -1) (hf : ¬ enF gs bd i gn 0 = 0) : tk_M y_CP_take w_CP_take 10 1 6 [.ref 0, .int (nI i)] (wd (nI gn, gk, gc, gs, gl, ga, gb) (nI n, lo, hi, ls, hs, mb, pc, bd) p c t) (tk_det (.inl (some (.int (pc i)))) (wd (nI gn, gk, gc, tkf gs bd i gn, gl, ga, gb) (nI n, lo, hi, ls, hs, mb, upd pc i (-1), bd) p c t)) := by
  refine tk_M.of (lv := [some (.ref 0), some (.int (nI i)), none]) (by decide) (Nat.le_of_ble_eq_true rfl) rfl ?_
  refine tk_iload_n (pc := 0) d_CP_take_0 rfl ?_
  refine tk_aload_n (pc := 1) d_CP_take_1 rfl ?_
  refine tk_get (pc := 2) d_CP_take_2 f_CP_19 rfl rfl ?_
  refine tk_get (pc := 5) d_CP_take_5 f_CP_81 rfl rfl ?_
  refine tk_callSr (pc := 8) d_CP_take_8 l_CP_54 k_CP_requireIndex (c_ri_ok (nI_pos (by omega)) (nI_lt hi' (by omega))) rfl (by omega) (Nat.le_of_ble_eq_true rfl) (Nat.le_of_ble_eq_true rfl) (Nat.le_of_ble_eq_true rfl) rfl rfl ?_
  refine tk_aload_n (pc := 11) d_CP_take_11 rfl ?_
  refine tk_get (pc := 12) d_CP_take_12 f_CP_19 rfl rfl ?_
  refine tk_iload_n (pc := 15) d_CP_take_15 rfl ?_
  refine tk_callVr (pc := 16) d_CP_take_16 l_CP_114 k_H_hasPlan rfl rfl rfl (m_H_hasPlan (k := i) (by omega)) rfl (by omega) (Nat.le_of_ble_eq_true rfl) (Nat.le_of_ble_eq_true rfl) (Nat.le_of_ble_eq_true rfl) rfl rfl ?_
  rw [if_neg (show ¬ pc i = -1 from hp)]
  refine tk_callSr (pc := 19) d_CP_take_19 l_CP_41 k_CP_requireTurn (c_rt_ok (b := 1) (by decide)) rfl (by omega) (Nat.le_of_ble_eq_true rfl) (Nat.le_of_ble_eq_true rfl) (Nat.le_of_ble_eq_true rfl) rfl rfl ?_
  refine tk_aload_n (pc := 22) d_CP_take_22 rfl ?_
  refine tk_iload_n (pc := 23) d_CP_take_23 rfl ?_
  refine tk_callVr (pc := 24) d_CP_take_24 l_CP_157 k_CP_enoughLeft rfl rfl rfl (m_enough (ht := i) hg (by omega)) rfl (by omega) (Nat.le_of_ble_eq_true rfl) (Nat.le_of_ble_eq_true rfl) (Nat.le_of_ble_eq_true rfl) rfl rfl ?_
  refine tk_callSr (pc := 27) d_CP_take_27 l_CP_78 k_CP_requireMeaning (c_rm_ok hf) rfl (by omega) (Nat.le_of_ble_eq_true rfl) (Nat.le_of_ble_eq_true rfl) (Nat.le_of_ble_eq_true rfl) rfl rfl ?_
  refine tk_iconst (pc := 30) (v := 0) d_CP_take_30 (by decide) ?_
  refine tk_istore2 (pc := 31) d_CP_take_31 rfl (by decide) ?_
  have key : ∀ (m k : Nat), k + m = gn → tk_T y_CP_take c_CP_take 3 (some .int) [] 10 1 6 (fun _ => none) 0 0 (tk_det (.inl (some (.int (pc i)))) (wd (nI gn, gk, gc, tkf gs bd i gn, gl, ga, gb) (nI n, lo, hi, ls, hs, mb, upd pc i (-1), bd) p c t)) 32 [some (.ref 0), some (.int (nI i)), some (.int (nI k))] [] (wd (nI gn, gk, gc, tkf gs bd i k, gl, ga, gb) (nI n, lo, hi, ls, hs, mb, pc, bd) p c t) := by
    intro m
    induction m with
    | zero =>
      intro k hk
      obtain rfl : k = gn := by omega
      refine tk_iload_n (pc := 32) d_CP_take_32 rfl ?_
      refine tk_aload_n (pc := 33) d_CP_take_33 rfl ?_
      refine tk_get (pc := 34) d_CP_take_34 f_CP_10 rfl rfl ?_
      refine tk_get (pc := 37) d_CP_take_37 f_CP_37 rfl rfl ?_
      refine tk_icmp_ge (pc := 40) (tgt := 74) d_CP_take_40 (by decide) (fun hb => ?_) (fun hb => ?_)
      · refine tk_aload_n (pc := 74) d_CP_take_74 rfl ?_
        refine tk_get (pc := 75) d_CP_take_75 f_CP_19 rfl rfl ?_
        refine tk_get (pc := 78) d_CP_take_78 f_CP_160 rfl rfl ?_
        refine tk_iload_n (pc := 81) d_CP_take_81 rfl ?_
        refine tk_iald (pc := 82) i d_CP_take_82 rfl rfl (by omega) (by decide) ?_
        refine tk_istore2 (pc := 83) d_CP_take_83 rfl (by decide) ?_
        refine tk_aload_n (pc := 84) d_CP_take_84 rfl ?_
        refine tk_get (pc := 85) d_CP_take_85 f_CP_19 rfl rfl ?_
        refine tk_get (pc := 88) d_CP_take_88 f_CP_160 rfl rfl ?_
        refine tk_iload_n (pc := 91) d_CP_take_91 rfl ?_
        refine tk_iconst (pc := 92) (v := -1) d_CP_take_92 (by decide) ?_
        refine tk_iast (pc := 93) i d_CP_take_93 rfl rfl (by omega) (by decide) ?_
        refine tk_iload_n (pc := 94) d_CP_take_94 rfl ?_
        exact tk_ireturn (pc := 95) d_CP_take_95 rfl rfl (Nat.le_of_ble_eq_true rfl) (Nat.le_of_ble_eq_true rfl) ⟨rfl, rfl⟩
      · exact absurd ((nI_leI (a := k) (b := k) (by omega) (by omega)).mpr (Nat.le_refl _)) hb
    | succ m ih =>
      intro k hk
      refine tk_iload_n (pc := 32) d_CP_take_32 rfl ?_
      refine tk_aload_n (pc := 33) d_CP_take_33 rfl ?_
      refine tk_get (pc := 34) d_CP_take_34 f_CP_10 rfl rfl ?_
      refine tk_get (pc := 37) d_CP_take_37 f_CP_37 rfl rfl ?_
      refine tk_icmp_ge (pc := 40) (tgt := 74) d_CP_take_40 (by decide) (fun hb => ?_) (fun hb => ?_)
      · exact absurd ((nI_leI (a := gn) (b := k) (by omega) (by omega)).mp hb) (by omega)
      refine tk_aload_n (pc := 43) d_CP_take_43 rfl ?_
      refine tk_get (pc := 44) d_CP_take_44 f_CP_10 rfl rfl ?_
      refine tk_get (pc := 47) d_CP_take_47 f_CP_75 rfl rfl ?_
      refine tk_iload_n (pc := 50) d_CP_take_50 rfl ?_
      refine tk_dup2 (pc := 51) d_CP_take_51 rfl rfl ?_
      refine tk_iald (pc := 52) k d_CP_take_52 rfl rfl (by omega) (by decide) ?_
      refine tk_aload_n (pc := 53) d_CP_take_53 rfl ?_
      refine tk_get (pc := 54) d_CP_take_54 f_CP_19 rfl rfl ?_
      refine tk_get (pc := 57) d_CP_take_57 f_CP_118 rfl rfl ?_
      refine tk_iload_n (pc := 60) d_CP_take_60 rfl ?_
      refine tk_iconst (pc := 61) (v := 5) d_CP_take_61 (by decide) ?_
      refine tk_imul (pc := 62) d_CP_take_62 ?_
      refine tk_iload_n (pc := 63) d_CP_take_63 rfl ?_
      refine tk_iadd (pc := 64) d_CP_take_64 ?_
      refine tk_iald (pc := 65) (i*5+k) d_CP_take_65 rfl (ixma i 5 k) (by omega) (by decide) ?_
      refine tk_isub (pc := 66) d_CP_take_66 ?_
      refine tk_iast (pc := 67) k d_CP_take_67 rfl rfl (by omega) (by decide) ?_
      refine tk_jinc2 (pc := 68) d_CP_take_68 rfl (by decide) ?_
      refine tk_goto (pc := 71) (tgt := 32) d_CP_take_71 (by decide) ?_
      refine tk_eq rfl (by rw [inc1]) rfl ?_ (ih (k + 1) (by omega))
      rw [← tkf_s]; rfl
  exact tk_eq rfl rfl rfl (by rw [tkf_0]) (key gn 0 (by omega))
theorem m_bound_no {i : Int32} (hi' : i < 0 ∨ ¬ i < nI n) : tk_M y_CP_bound w_CP_bound 10 1 6 [.ref 0, .int i] (wd (nI gn, gk, gc, gs, gl, ga, gb) (nI n, lo, hi, ls, hs, mb, pc, bd) p c t) (tk_det (.inr eI) (wd (nI gn, gk, gc, gs, gl, ga, gb) (nI n, lo, hi, ls, hs, mb, pc, bd) p c t)) := by
  refine tk_M.of (lv := [some (.ref 0), some (.int i), none, none, none, none, none, none, none]) (by decide) (Nat.le_of_ble_eq_true rfl) rfl ?_
  refine tk_iload_n (pc := 0) d_CP_bound_0 rfl ?_
  refine tk_aload_n (pc := 1) d_CP_bound_1 rfl ?_
  refine tk_get (pc := 2) d_CP_bound_2 f_CP_19 rfl rfl ?_
  refine tk_get (pc := 5) d_CP_bound_5 f_CP_81 rfl rfl ?_
  refine tk_callSx (pc := 8) d_CP_bound_8 l_CP_54 k_CP_requireIndex (c_ri_no hi') rfl (by omega) (Nat.le_of_ble_eq_true rfl) (Nat.le_of_ble_eq_true rfl) (Nat.le_of_ble_eq_true rfl) rfl rfl (by simp) ?_
  exact ⟨rfl, rfl⟩
theorem m_bound_yes {i : Nat} (hi' : i < n) (hn : n < 5) (hg : gn < 6) : tk_M y_CP_bound w_CP_bound 10 1 6 [.ref 0, .int (nI i)] (wd (nI gn, gk, gc, gs, gl, ga, gb) (nI n, lo, hi, ls, hs, mb, pc, bd) p c t) (tk_det (if bdF (nI gn, gk, gc, gs, gl, ga, gb) (lo i) gn = -1 then .inr eU else .inl (some (.long (bdF (nI gn, gk, gc, gs, gl, ga, gb) (lo i) gn)))) (wd (nI gn, gk, gc, gs, gl, ga, gb) (nI n, lo, hi, ls, hs, mb, pc, bd) p c t)) := by
  refine tk_M.of (lv := [some (.ref 0), some (.int (nI i)), none, none, none, none, none, none, none]) (by decide) (Nat.le_of_ble_eq_true rfl) rfl ?_
  refine tk_iload_n (pc := 0) d_CP_bound_0 rfl ?_
  refine tk_aload_n (pc := 1) d_CP_bound_1 rfl ?_
  refine tk_get (pc := 2) d_CP_bound_2 f_CP_19 rfl rfl ?_
  refine tk_get (pc := 5) d_CP_bound_5 f_CP_81 rfl rfl ?_
  refine tk_callSr (pc := 8) d_CP_bound_8 l_CP_54 k_CP_requireIndex (c_ri_ok (nI_pos (by omega)) (nI_lt hi' (by omega))) rfl (by omega) (Nat.le_of_ble_eq_true rfl) (Nat.le_of_ble_eq_true rfl) (Nat.le_of_ble_eq_true rfl) rfl rfl ?_
  refine tk_ldc2 (pc := 11) d_CP_bound_11 q_CP_133 ?_
  refine tk_lstore2 (pc := 14) d_CP_bound_14 rfl (by decide) ?_
  refine tk_iconst (pc := 15) (v := 0) d_CP_bound_15 (by decide) ?_
  refine tk_istore4 (pc := 16) d_CP_bound_16 rfl (by decide) ?_
  generalize hr : (if bdF (nI gn, gk, gc, gs, gl, ga, gb) (lo i) gn = -1 then Sum.inr eU else Sum.inl (some (Value.long (bdF (nI gn, gk, gc, gs, gl, ga, gb) (lo i) gn))) : tk_R) = rr
  have key : ∀ (m k : Nat) (o5 o6 o7 o8 : Option Value), tk_p1 o6 = true → k + m = gn → tk_T y_CP_bound c_CP_bound 9 (some .long) [] 10 1 6 (fun _ => none) 0 0 (tk_det rr (wd (nI gn, gk, gc, gs, gl, ga, gb) (nI n, lo, hi, ls, hs, mb, pc, bd) p c t)) 18 [some (.ref 0), some (.int (nI i)), some (.long (bdF (nI gn, gk, gc, gs, gl, ga, gb) (lo i) k)), none, some (.int (nI k)), o5, o6, o7, o8] [] (wd (nI gn, gk, gc, gs, gl, ga, gb) (nI n, lo, hi, ls, hs, mb, pc, bd) p c t) := by
    intro m
    induction m with
    | zero =>
      intro k o5 o6 o7 o8 ho hk
      obtain rfl : k = gn := by omega
      refine tk_iload (pc := 18) d_CP_bound_18 rfl ?_
      refine tk_aload_n (pc := 20) d_CP_bound_20 rfl ?_
      refine tk_get (pc := 21) d_CP_bound_21 f_CP_10 rfl rfl ?_
      refine tk_get (pc := 24) d_CP_bound_24 f_CP_37 rfl rfl ?_
      refine tk_icmp_ge (pc := 27) (tgt := 120) d_CP_bound_27 (by decide) (fun hb => ?_) (fun hb => ?_)
      · refine tk_lload_n (pc := 120) d_CP_bound_120 rfl ?_
        refine tk_ldc2 (pc := 121) d_CP_bound_121 q_CP_133 ?_
        refine tk_lcmp (pc := 124) d_CP_bound_124 ?_
        refine tk_if_eq (pc := 125) (tgt := 132) d_CP_bound_125 (by decide) (fun hc => ?_) (fun hc => ?_)
        · refine tk_iconst (pc := 132) (v := 0) d_CP_bound_132 (by decide) ?_
          refine tk_callSx (pc := 133) d_CP_bound_133 l_CP_78 k_CP_requireMeaning (c_rm_no) rfl (by omega) (Nat.le_of_ble_eq_true rfl) (Nat.le_of_ble_eq_true rfl) (Nat.le_of_ble_eq_true rfl) rfl rfl (by simp) ?_
          rw [if_pos ((lg_cmp_eq _ _).mp hc)] at hr
          exact ⟨hr, rfl⟩
        · refine tk_iconst (pc := 128) (v := 1) d_CP_bound_128 (by decide) ?_
          refine tk_goto (pc := 129) (tgt := 133) d_CP_bound_129 (by decide) ?_
          refine tk_callSr (pc := 133) d_CP_bound_133 l_CP_78 k_CP_requireMeaning (c_rm_ok (b := 1) (by decide)) rfl (by omega) (Nat.le_of_ble_eq_true rfl) (Nat.le_of_ble_eq_true rfl) (Nat.le_of_ble_eq_true rfl) rfl rfl ?_
          refine tk_lload_n (pc := 136) d_CP_bound_136 rfl ?_
          rw [if_neg (fun q => hc ((lg_cmp_eq _ _).mpr q))] at hr
          exact tk_lreturn (pc := 137) d_CP_bound_137 rfl (Nat.le_of_ble_eq_true rfl) (Nat.le_of_ble_eq_true rfl) ⟨hr, rfl⟩
      · exact absurd ((nI_leI (a := k) (b := k) (by omega) (by omega)).mpr (Nat.le_refl _)) hb
    | succ m ih =>
      intro k o5 o6 o7 o8 ho hk
      refine tk_iload (pc := 18) d_CP_bound_18 rfl ?_
      refine tk_aload_n (pc := 20) d_CP_bound_20 rfl ?_
      refine tk_get (pc := 21) d_CP_bound_21 f_CP_10 rfl rfl ?_
      refine tk_get (pc := 24) d_CP_bound_24 f_CP_37 rfl rfl ?_
      refine tk_icmp_ge (pc := 27) (tgt := 120) d_CP_bound_27 (by decide) (fun hb => ?_) (fun hb => ?_)
      · exact absurd ((nI_leI (a := gn) (b := k) (by omega) (by omega)).mp hb) (by omega)
      refine tk_aload_n (pc := 30) d_CP_bound_30 rfl ?_
      refine tk_get (pc := 31) d_CP_bound_31 f_CP_10 rfl rfl ?_
      refine tk_get (pc := 34) d_CP_bound_34 f_CP_135 rfl rfl ?_
      refine tk_iload (pc := 37) d_CP_bound_37 rfl ?_
      refine tk_iald (pc := 39) k d_CP_bound_39 rfl rfl (by omega) (by decide) ?_
      refine tk_i2l (pc := 40) d_CP_bound_40 ?_
      refine tk_lstore5 (pc := 41) d_CP_bound_41 rfl (by decide) ?_
      refine tk_aload_n (pc := 43) d_CP_bound_43 rfl ?_
      refine tk_get (pc := 44) d_CP_bound_44 f_CP_10 rfl rfl ?_
      refine tk_iload (pc := 47) d_CP_bound_47 rfl ?_
      refine tk_callVr (pc := 49) d_CP_bound_49 l_CP_138 k_G_room rfl rfl rfl (m_G_room (k := k) (by omega)) rfl (by omega) (Nat.le_of_ble_eq_true rfl) (Nat.le_of_ble_eq_true rfl) (Nat.le_of_ble_eq_true rfl) rfl rfl ?_
      have skip : ¬ (0 < rmin (nI gn, gk, gc, gs, gl, ga, gb) k ∧ (0 : Int64) < (gk k).toInt64) → ∀ (v5 : Option Value) , tk_p1 none = true → tk_T y_CP_bound c_CP_bound 9 (some .long) [] 10 1 6 (fun _ => none) 0 0 (tk_det rr (wd (nI gn, gk, gc, gs, gl, ga, gb) (nI n, lo, hi, ls, hs, mb, pc, bd) p c t)) 114 [some (.ref 0), some (.int (nI i)), some (.long (bdF (nI gn, gk, gc, gs, gl, ga, gb) (lo i) k)), none, some (.int (nI k)), v5, none, o7, o8] [] (wd (nI gn, gk, gc, gs, gl, ga, gb) (nI n, lo, hi, ls, hs, mb, pc, bd) p c t) := by
        intro hno v5 _
        refine tk_jinc4 (pc := 114) d_CP_bound_114 rfl (by decide) ?_
        refine tk_goto (pc := 117) (tgt := 18) d_CP_bound_117 (by decide) ?_
        refine tk_eq rfl ?_ rfl rfl (ih (k + 1) v5 none o7 o8 rfl (by omega))
        rw [inc1]
        simp only [bdF]
        rw [if_neg hno]
      refine tk_if_le (pc := 52) (tgt := 114) d_CP_bound_52 (by decide) (fun hc => ?_) (fun hc => ?_)
      · exact skip (fun q => absurd q.1 (by rw [Int32.not_lt]; exact hc)) _ rfl
      refine tk_lload (pc := 55) d_CP_bound_55 rfl ?_
      refine tk_lconst (pc := 57) (v := 0) d_CP_bound_57 (by decide) ?_
      refine tk_lcmp (pc := 58) d_CP_bound_58 ?_
      refine tk_if_le (pc := 59) (tgt := 114) d_CP_bound_59 (by decide) (fun hd => ?_) (fun hd => ?_)
      · exact skip (fun q => absurd q.2 (by rw [Int64.not_lt]; exact (lg_cmp_le _ _).mp hd)) _ rfl
      have hyes : 0 < rmin (nI gn, gk, gc, gs, gl, ga, gb) k ∧ (0 : Int64) < (gk k).toInt64 := ⟨by rw [← Int32.not_le]; exact hc, by rw [← Int64.not_le]; exact fun q => hd ((lg_cmp_le _ _).mpr q)⟩
      have hk0 : ¬ (gk k).toInt64 = 0 := fun q => by have := hyes.2; rw [q] at this; exact absurd this (by decide)
      refine tk_aload_n (pc := 62) d_CP_bound_62 rfl ?_
      refine tk_get (pc := 63) d_CP_bound_63 f_CP_19 rfl rfl ?_
      refine tk_get (pc := 66) d_CP_bound_66 f_CP_142 rfl rfl ?_
      refine tk_iload_n (pc := 69) d_CP_bound_69 rfl ?_
      refine tk_iald (pc := 70) i d_CP_bound_70 rfl rfl (by omega) (by decide) ?_
      refine tk_i2l (pc := 71) d_CP_bound_71 ?_
      refine tk_aload_n (pc := 72) d_CP_bound_72 rfl ?_
      refine tk_get (pc := 73) d_CP_bound_73 f_CP_10 rfl rfl ?_
      refine tk_get (pc := 76) d_CP_bound_76 f_CP_145 rfl rfl ?_
      refine tk_iload (pc := 79) d_CP_bound_79 rfl ?_
      refine tk_iald (pc := 81) k d_CP_bound_81 rfl rfl (by omega) (by decide) ?_
      refine tk_i2l (pc := 82) d_CP_bound_82 ?_
      refine tk_lmul (pc := 83) d_CP_bound_83 ?_
      refine tk_lload (pc := 84) d_CP_bound_84 rfl ?_
      refine tk_ladd (pc := 86) d_CP_bound_86 ?_
      refine tk_lconst (pc := 87) (v := 1) d_CP_bound_87 (by decide) ?_
      refine tk_lsub (pc := 88) d_CP_bound_88 ?_
      refine tk_lload (pc := 89) d_CP_bound_89 rfl ?_
      refine tk_ldiv (pc := 91) d_CP_bound_91 hk0 ?_
      refine tk_lstore7 (pc := 92) d_CP_bound_92 rfl (by decide) ?_
      refine tk_lload_n (pc := 94) d_CP_bound_94 rfl ?_
      refine tk_ldc2 (pc := 95) d_CP_bound_95 q_CP_133 ?_
      refine tk_lcmp (pc := 98) d_CP_bound_98 ?_
      refine tk_if_ne (pc := 99) (tgt := 107) d_CP_bound_99 (by decide) (fun he => ?_) (fun he => ?_)
      · refine tk_lload_n (pc := 107) d_CP_bound_107 rfl ?_
        refine tk_lload (pc := 108) d_CP_bound_108 rfl ?_
        refine tk_mminL (pc := 110) d_CP_bound_110 z_CP_minL z_minL1 z_math z_minL2 (Nat.le_of_ble_eq_true rfl) (Nat.le_of_ble_eq_true rfl) (Nat.le_of_ble_eq_true rfl) ?_
        refine tk_lstore2 (pc := 113) d_CP_bound_113 rfl (by decide) ?_
        refine tk_jinc4 (pc := 114) d_CP_bound_114 rfl (by decide) ?_
        refine tk_goto (pc := 117) (tgt := 18) d_CP_bound_117 (by decide) ?_
        refine tk_eq rfl ?_ rfl rfl (ih (k + 1) (some (.long (gk k).toInt64)) none (some (.long (((lo i).toInt64 * (gc k).toInt64 + (gk k).toInt64 - 1) / (gk k).toInt64))) none rfl (by omega))
        rw [inc1]
        have e1 : bdF (nI gn, gk, gc, gs, gl, ga, gb) (lo i) (k + 1) = if ((lo i).toInt64 * (gc k).toInt64 + (gk k).toInt64 - 1) / (gk k).toInt64 < bdF (nI gn, gk, gc, gs, gl, ga, gb) (lo i) k then ((lo i).toInt64 * (gc k).toInt64 + (gk k).toInt64 - 1) / (gk k).toInt64 else bdF (nI gn, gk, gc, gs, gl, ga, gb) (lo i) k := by
          show (if _ ∧ _ then _ else _) = _
          rw [if_pos hyes, if_neg (fun q => he ((lg_cmp_eq _ _).mpr q))]
        rw [e1]
      · refine tk_lload (pc := 102) d_CP_bound_102 rfl ?_
        refine tk_goto (pc := 104) (tgt := 113) d_CP_bound_104 (by decide) ?_
        refine tk_lstore2 (pc := 113) d_CP_bound_113 rfl (by decide) ?_
        refine tk_jinc4 (pc := 114) d_CP_bound_114 rfl (by decide) ?_
        refine tk_goto (pc := 117) (tgt := 18) d_CP_bound_117 (by decide) ?_
        refine tk_eq rfl ?_ rfl rfl (ih (k + 1) (some (.long (gk k).toInt64)) none (some (.long (((lo i).toInt64 * (gc k).toInt64 + (gk k).toInt64 - 1) / (gk k).toInt64))) none rfl (by omega))
        rw [inc1]
        have e1 : bdF (nI gn, gk, gc, gs, gl, ga, gb) (lo i) (k + 1) = ((lo i).toInt64 * (gc k).toInt64 + (gk k).toInt64 - 1) / (gk k).toInt64 := by
          show (if _ ∧ _ then _ else _) = _
          rw [if_pos hyes, if_pos ((lg_cmp_eq _ _).mp he)]
        rw [e1]
  exact key gn 0 none none none none rfl (by omega)
theorem m_worst_no {i e d k : Int32} (hi' : (i < 0 ∨ ¬ i < nI n) ∨ (e < 0 ∨ ¬ e < 4) ∨ (d < 0 ∨ ¬ d < 2) ∨ (k < 0 ∨ ¬ k < 2)) : tk_M y_CP_worst w_CP_worst 10 1 6 [.ref 0, .int i, .int e, .int d, .int k] (wd (nI gn, gk, gc, gs, gl, ga, gb) (nI n, lo, hi, ls, hs, mb, pc, bd) p c t) (tk_det (.inr eI) (wd (nI gn, gk, gc, gs, gl, ga, gb) (nI n, lo, hi, ls, hs, mb, pc, bd) p c t)) := by
  refine tk_M.of (lv := [some (.ref 0), some (.int i), some (.int e), some (.int d), some (.int k), none, none, none, none]) (by decide) (Nat.le_of_ble_eq_true rfl) rfl ?_
  refine tk_iload_n (pc := 0) d_CP_worst_0 rfl ?_
  refine tk_aload_n (pc := 1) d_CP_worst_1 rfl ?_
  refine tk_get (pc := 2) d_CP_worst_2 f_CP_19 rfl rfl ?_
  refine tk_get (pc := 5) d_CP_worst_5 f_CP_81 rfl rfl ?_
  by_cases h1 : i < 0 ∨ ¬ i < nI n
  · refine tk_callSx (pc := 8) d_CP_worst_8 l_CP_54 k_CP_requireIndex (c_ri_no h1) rfl (by omega) (Nat.le_of_ble_eq_true rfl) (Nat.le_of_ble_eq_true rfl) (Nat.le_of_ble_eq_true rfl) rfl rfl (by simp) ?_
    exact ⟨rfl, rfl⟩
  refine tk_callSr (pc := 8) d_CP_worst_8 l_CP_54 k_CP_requireIndex (c_ri_ok (fun z => h1 (Or.inl z)) (Classical.not_not.mp (fun z => h1 (Or.inr z)))) rfl (by omega) (Nat.le_of_ble_eq_true rfl) (Nat.le_of_ble_eq_true rfl) (Nat.le_of_ble_eq_true rfl) rfl rfl ?_
  refine tk_iload_n (pc := 11) d_CP_worst_11 rfl ?_
  refine tk_iconst (pc := 12) (v := 4) d_CP_worst_12 (by decide) ?_
  by_cases h2 : e < 0 ∨ ¬ e < 4
  · refine tk_callSx (pc := 13) d_CP_worst_13 l_CP_54 k_CP_requireIndex (c_ri_no h2) rfl (by omega) (Nat.le_of_ble_eq_true rfl) (Nat.le_of_ble_eq_true rfl) (Nat.le_of_ble_eq_true rfl) rfl rfl (by simp) ?_
    exact ⟨rfl, rfl⟩
  refine tk_callSr (pc := 13) d_CP_worst_13 l_CP_54 k_CP_requireIndex (c_ri_ok (fun z => h2 (Or.inl z)) (Classical.not_not.mp (fun z => h2 (Or.inr z)))) rfl (by omega) (Nat.le_of_ble_eq_true rfl) (Nat.le_of_ble_eq_true rfl) (Nat.le_of_ble_eq_true rfl) rfl rfl ?_
  refine tk_iload_n (pc := 16) d_CP_worst_16 rfl ?_
  refine tk_iconst (pc := 17) (v := 2) d_CP_worst_17 (by decide) ?_
  by_cases h3 : d < 0 ∨ ¬ d < 2
  · refine tk_callSx (pc := 18) d_CP_worst_18 l_CP_54 k_CP_requireIndex (c_ri_no h3) rfl (by omega) (Nat.le_of_ble_eq_true rfl) (Nat.le_of_ble_eq_true rfl) (Nat.le_of_ble_eq_true rfl) rfl rfl (by simp) ?_
    exact ⟨rfl, rfl⟩
  refine tk_callSr (pc := 18) d_CP_worst_18 l_CP_54 k_CP_requireIndex (c_ri_ok (fun z => h3 (Or.inl z)) (Classical.not_not.mp (fun z => h3 (Or.inr z)))) rfl (by omega) (Nat.le_of_ble_eq_true rfl) (Nat.le_of_ble_eq_true rfl) (Nat.le_of_ble_eq_true rfl) rfl rfl ?_
  refine tk_iload (pc := 21) d_CP_worst_21 rfl ?_
  refine tk_iconst (pc := 23) (v := 2) d_CP_worst_23 (by decide) ?_
  refine tk_callSx (pc := 24) d_CP_worst_24 l_CP_54 k_CP_requireIndex (c_ri_no (((hi'.resolve_left h1).resolve_left h2).resolve_left h3)) rfl (by omega) (Nat.le_of_ble_eq_true rfl) (Nat.le_of_ble_eq_true rfl) (Nat.le_of_ble_eq_true rfl) rfl rfl (by simp) ?_
  exact ⟨rfl, rfl⟩
theorem m_worst_yes {i e : Nat} {d k : Int32} (hi' : i < n) (hn : n < 5) (hg : gn < 6) (he : e < 4) (h3 : ¬ (d < 0 ∨ ¬ d < 2)) (h4 : ¬ (k < 0 ∨ ¬ k < 2)) : tk_M y_CP_worst w_CP_worst 10 1 6 [.ref 0, .int (nI i), .int (nI e), .int d, .int k] (wd (nI gn, gk, gc, gs, gl, ga, gb) (nI n, lo, hi, ls, hs, mb, pc, bd) p c t) (tk_det (if pc i = -1 then .inr eS else if pkl bd gk i gn ≤ 0 then .inr eU else .inl (some (.long ((if k = 0 then psh bd gk (if d = 0 then ga else gb) i e gn else pkl bd gk i gn) / cdv (psh bd gk (if d = 0 then ga else gb) i e gn) (pkl bd gk i gn))))) (wd (nI gn, gk, gc, gs, gl, ga, gb) (nI n, lo, hi, ls, hs, mb, pc, bd) p c t)) := by
  refine tk_M.of (lv := [some (.ref 0), some (.int (nI i)), some (.int (nI e)), some (.int d), some (.int k), none, none, none, none]) (by decide) (Nat.le_of_ble_eq_true rfl) rfl ?_
  refine tk_iload_n (pc := 0) d_CP_worst_0 rfl ?_
  refine tk_aload_n (pc := 1) d_CP_worst_1 rfl ?_
  refine tk_get (pc := 2) d_CP_worst_2 f_CP_19 rfl rfl ?_
  refine tk_get (pc := 5) d_CP_worst_5 f_CP_81 rfl rfl ?_
  refine tk_callSr (pc := 8) d_CP_worst_8 l_CP_54 k_CP_requireIndex (c_ri_ok (nI_pos (by omega)) (nI_lt hi' (by omega))) rfl (by omega) (Nat.le_of_ble_eq_true rfl) (Nat.le_of_ble_eq_true rfl) (Nat.le_of_ble_eq_true rfl) rfl rfl ?_
  refine tk_iload_n (pc := 11) d_CP_worst_11 rfl ?_
  refine tk_iconst (pc := 12) (v := 4) d_CP_worst_12 (by decide) ?_
  refine tk_callSr (pc := 13) d_CP_worst_13 l_CP_54 k_CP_requireIndex (c_ri_ok (nI_pos (by omega)) (nI_lt (b := 4) he (by omega))) rfl (by omega) (Nat.le_of_ble_eq_true rfl) (Nat.le_of_ble_eq_true rfl) (Nat.le_of_ble_eq_true rfl) rfl rfl ?_
  refine tk_iload_n (pc := 16) d_CP_worst_16 rfl ?_
  refine tk_iconst (pc := 17) (v := 2) d_CP_worst_17 (by decide) ?_
  refine tk_callSr (pc := 18) d_CP_worst_18 l_CP_54 k_CP_requireIndex (c_ri_ok (fun z => h3 (Or.inl z)) (Classical.not_not.mp (fun z => h3 (Or.inr z)))) rfl (by omega) (Nat.le_of_ble_eq_true rfl) (Nat.le_of_ble_eq_true rfl) (Nat.le_of_ble_eq_true rfl) rfl rfl ?_
  refine tk_iload (pc := 21) d_CP_worst_21 rfl ?_
  refine tk_iconst (pc := 23) (v := 2) d_CP_worst_23 (by decide) ?_
  refine tk_callSr (pc := 24) d_CP_worst_24 l_CP_54 k_CP_requireIndex (c_ri_ok (fun z => h4 (Or.inl z)) (Classical.not_not.mp (fun z => h4 (Or.inr z)))) rfl (by omega) (Nat.le_of_ble_eq_true rfl) (Nat.le_of_ble_eq_true rfl) (Nat.le_of_ble_eq_true rfl) rfl rfl ?_
  refine tk_aload_n (pc := 27) d_CP_worst_27 rfl ?_
  refine tk_get (pc := 28) d_CP_worst_28 f_CP_19 rfl rfl ?_
  refine tk_iload_n (pc := 31) d_CP_worst_31 rfl ?_
  refine tk_callVr (pc := 32) d_CP_worst_32 l_CP_114 k_H_hasPlan rfl rfl rfl (m_H_hasPlan (k := i) (by omega)) rfl (by omega) (Nat.le_of_ble_eq_true rfl) (Nat.le_of_ble_eq_true rfl) (Nat.le_of_ble_eq_true rfl) rfl rfl ?_
  by_cases hp : pc i = -1
  · rw [if_pos hp, if_pos (show pc i = -1 from hp)]
    refine tk_callSx (pc := 35) d_CP_worst_35 l_CP_41 k_CP_requireTurn (c_rt_no) rfl (by omega) (Nat.le_of_ble_eq_true rfl) (Nat.le_of_ble_eq_true rfl) (Nat.le_of_ble_eq_true rfl) rfl rfl (by simp) ?_
    exact ⟨rfl, rfl⟩
  rw [if_neg hp, if_neg (show ¬ pc i = -1 from hp)]
  refine tk_callSr (pc := 35) d_CP_worst_35 l_CP_41 k_CP_requireTurn (c_rt_ok (b := 1) (by decide)) rfl (by omega) (Nat.le_of_ble_eq_true rfl) (Nat.le_of_ble_eq_true rfl) (Nat.le_of_ble_eq_true rfl) rfl rfl ?_
  refine tk_aload_n (pc := 38) d_CP_worst_38 rfl ?_
  refine tk_iload_n (pc := 39) d_CP_worst_39 rfl ?_
  refine tk_callVr (pc := 40) d_CP_worst_40 l_CP_121 k_CP_plannedKilos rfl rfl rfl (m_pkl (ht := i) hg (by omega)) rfl (by omega) (Nat.le_of_ble_eq_true rfl) (Nat.le_of_ble_eq_true rfl) (Nat.le_of_ble_eq_true rfl) rfl rfl ?_
  generalize hA : pkl bd gk i gn = A
  refine tk_lstore5 (pc := 43) d_CP_worst_43 rfl (by decide) ?_
  refine tk_lload (pc := 45) d_CP_worst_45 rfl ?_
  refine tk_lconst (pc := 47) (v := 0) d_CP_worst_47 (by decide) ?_
  refine tk_lcmp (pc := 48) d_CP_worst_48 ?_
  refine tk_if_le (pc := 49) (tgt := 56) d_CP_worst_49 (by decide) (fun hb => ?_) (fun hb => ?_)
  · rw [if_pos ((lg_cmp_le _ _).mp hb)]
    refine tk_iconst (pc := 56) (v := 0) d_CP_worst_56 (by decide) ?_
    refine tk_callSx (pc := 57) d_CP_worst_57 l_CP_78 k_CP_requireMeaning (c_rm_no) rfl (by omega) (Nat.le_of_ble_eq_true rfl) (Nat.le_of_ble_eq_true rfl) (Nat.le_of_ble_eq_true rfl) rfl rfl (by simp) ?_
    exact ⟨rfl, rfl⟩
  rw [if_neg (fun q => hb ((lg_cmp_le _ _).mpr q))]
  refine tk_iconst (pc := 52) (v := 1) d_CP_worst_52 (by decide) ?_
  refine tk_goto (pc := 53) (tgt := 57) d_CP_worst_53 (by decide) ?_
  refine tk_callSr (pc := 57) d_CP_worst_57 l_CP_78 k_CP_requireMeaning (c_rm_ok (b := 1) (by decide)) rfl (by omega) (Nat.le_of_ble_eq_true rfl) (Nat.le_of_ble_eq_true rfl) (Nat.le_of_ble_eq_true rfl) rfl rfl ?_
  refine tk_aload_n (pc := 60) d_CP_worst_60 rfl ?_
  refine tk_iload_n (pc := 61) d_CP_worst_61 rfl ?_
  refine tk_iload_n (pc := 62) d_CP_worst_62 rfl ?_
  refine tk_iload_n (pc := 63) d_CP_worst_63 rfl ?_
  have tail : ∀ U : Int64, tk_T y_CP_worst c_CP_worst 9 (some .long) [] 10 1 6 (fun _ => none) 0 0 (tk_det (.inl (some (.long ((if k = 0 then U else A) / cdv U A)))) (wd (nI gn, gk, gc, gs, gl, ga, gb) (nI n, lo, hi, ls, hs, mb, pc, bd) p c t)) 87 [some (.ref 0), some (.int (nI i)), some (.int (nI e)), some (.int d), some (.int k), some (.long A), none, none, none] [.long U] (wd (nI gn, gk, gc, gs, gl, ga, gb) (nI n, lo, hi, ls, hs, mb, pc, bd) p c t) := by
    intro U
    have hc0 : ¬ cdv U A = 0 := by
      unfold cdv
      split
      · rename_i h9
        intro q
        rw [q] at h9
        exact absurd h9 (by decide)
      · decide
    refine tk_lstore7 (pc := 87) d_CP_worst_87 rfl (by decide) ?_
    refine tk_iload (pc := 89) d_CP_worst_89 rfl ?_
    refine tk_if_ne (pc := 91) (tgt := 99) d_CP_worst_91 (by decide) (fun hc => ?_) (fun hc => ?_)
    · rw [if_neg hc]
      refine tk_lload (pc := 99) d_CP_worst_99 rfl ?_
      refine tk_lload (pc := 101) d_CP_worst_101 rfl ?_
      refine tk_lload (pc := 103) d_CP_worst_103 rfl ?_
      refine tk_callSr (pc := 105) d_CP_worst_105 l_CP_129 k_CP_commonDivisor (m_cdv (a := U) (b := A)) rfl (by omega) (Nat.le_of_ble_eq_true rfl) (Nat.le_of_ble_eq_true rfl) (Nat.le_of_ble_eq_true rfl) rfl rfl ?_
      refine tk_ldiv (pc := 108) d_CP_worst_108 hc0 ?_
      exact tk_lreturn (pc := 109) d_CP_worst_109 rfl (Nat.le_of_ble_eq_true rfl) (Nat.le_of_ble_eq_true rfl) ⟨rfl, rfl⟩
    · rw [if_pos hc]
      refine tk_lload (pc := 94) d_CP_worst_94 rfl ?_
      refine tk_goto (pc := 96) (tgt := 101) d_CP_worst_96 (by decide) ?_
      refine tk_lload (pc := 101) d_CP_worst_101 rfl ?_
      refine tk_lload (pc := 103) d_CP_worst_103 rfl ?_
      refine tk_callSr (pc := 105) d_CP_worst_105 l_CP_129 k_CP_commonDivisor (m_cdv (a := U) (b := A)) rfl (by omega) (Nat.le_of_ble_eq_true rfl) (Nat.le_of_ble_eq_true rfl) (Nat.le_of_ble_eq_true rfl) rfl rfl ?_
      refine tk_ldiv (pc := 108) d_CP_worst_108 hc0 ?_
      exact tk_lreturn (pc := 109) d_CP_worst_109 rfl (Nat.le_of_ble_eq_true rfl) (Nat.le_of_ble_eq_true rfl) ⟨rfl, rfl⟩
  refine tk_if_ne (pc := 64) (tgt := 77) d_CP_worst_64 (by decide) (fun hc => ?_) (fun hc => ?_)
  · rw [if_neg hc]
    refine tk_aload_n (pc := 77) d_CP_worst_77 rfl ?_
    refine tk_get (pc := 78) d_CP_worst_78 f_CP_10 rfl rfl ?_
    refine tk_get (pc := 81) d_CP_worst_81 f_CP_66 rfl rfl ?_
    refine tk_callVr (pc := 84) d_CP_worst_84 l_CP_125 k_CP_plannedShares rfl rfl rfl (m_pshH (ht := i) (e := e) hg (by omega) he) rfl (by omega) (Nat.le_of_ble_eq_true rfl) (Nat.le_of_ble_eq_true rfl) (Nat.le_of_ble_eq_true rfl) rfl rfl ?_
    exact tail _
  · rw [if_pos hc]
    refine tk_aload_n (pc := 67) d_CP_worst_67 rfl ?_
    refine tk_get (pc := 68) d_CP_worst_68 f_CP_10 rfl rfl ?_
    refine tk_get (pc := 71) d_CP_worst_71 f_CP_62 rfl rfl ?_
    refine tk_goto (pc := 74) (tgt := 84) d_CP_worst_74 (by decide) ?_
    refine tk_callVr (pc := 84) d_CP_worst_84 l_CP_125 k_CP_plannedShares rfl rfl rfl (m_pshL (ht := i) (e := e) hg (by omega) he) rfl (by omega) (Nat.le_of_ble_eq_true rfl) (Nat.le_of_ble_eq_true rfl) (Nat.le_of_ble_eq_true rfl) rfl rfl ?_
    exact tail _
end PUB3
end
section
/-! ===== constructors ===== -/
abbrev z0 : Ar := fun _ => 0
theorem m_S_initP {x0 x1 x2 x3 x4 x5 x6 x7 x8 x9 x10 x11 x12 x13 x14 x15 x16 : tk_E} : tk_M y_S_init w_S_init 1 3 137 [.ref 17] (x0 :: x1 :: x2 :: x3 :: x4 :: x5 :: x6 :: x7 :: x8 :: x9 :: x10 :: x11 :: x12 :: x13 :: x14 :: x15 :: x16 :: [.inr (4, [.int 0, .null, .null, .null])]) (tk_det (.inl none) (x0 :: x1 :: x2 :: x3 :: x4 :: x5 :: x6 :: x7 :: x8 :: x9 :: x10 :: x11 :: x12 :: x13 :: x14 :: x15 :: x16 :: [.inr (4, [.int 0, .ref 18, .ref 19, .ref 20]), ia 5 z0, ia 60 z0, ia 72 z0])) := by
  refine tk_M.of (lv := [some (.ref 17)]) (by decide) (Nat.le_of_ble_eq_true rfl) rfl ?_
  refine tk_aload_n (pc := 0) d_S_init_0 rfl ?_
  refine tk_objInit (pc := 1) d_S_init_1 o_S o_1 o_2 (Nat.le_of_ble_eq_true rfl) ?_
  refine tk_aload_n (pc := 4) d_S_init_4 rfl ?_
  refine tk_iconst (pc := 5) (v := 5) d_S_init_5 (by decide) ?_
  refine tk_newa (pc := 6) (t := 0) (N := 5) (a0 := (5, .inl (fun _ => 0))) d_S_init_6 a_int rfl rfl (fun _ => rfl) rfl (by decide) rfl rfl rfl (Nat.le_of_ble_eq_true rfl) (Nat.le_of_ble_eq_true rfl) ?_
  refine tk_putF (pc := 8) d_S_init_8 g_S_9 p_S_1 rfl rfl rfl rfl (Nat.le_of_ble_eq_true rfl) rfl ?_
  refine tk_aload_n (pc := 11) d_S_init_11 rfl ?_
  refine tk_bipush (pc := 12) (v := 60) d_S_init_12 (by decide) ?_
  refine tk_newa (pc := 14) (t := 0) (N := 60) (a0 := (60, .inl (fun _ => 0))) d_S_init_14 a_int rfl rfl (fun _ => rfl) rfl (by decide) rfl rfl rfl (Nat.le_of_ble_eq_true rfl) (Nat.le_of_ble_eq_true rfl) ?_
  refine tk_putF (pc := 16) d_S_init_16 g_S_15 p_S_2 rfl rfl rfl rfl (Nat.le_of_ble_eq_true rfl) rfl ?_
  refine tk_aload_n (pc := 19) d_S_init_19 rfl ?_
  refine tk_bipush (pc := 20) (v := 72) d_S_init_20 (by decide) ?_
  refine tk_newa (pc := 22) (t := 0) (N := 72) (a0 := (72, .inl (fun _ => 0))) d_S_init_22 a_int rfl rfl (fun _ => rfl) rfl (by decide) rfl rfl rfl (Nat.le_of_ble_eq_true rfl) (Nat.le_of_ble_eq_true rfl) ?_
  refine tk_putF (pc := 24) d_S_init_24 g_S_18 p_S_3 rfl rfl rfl rfl (Nat.le_of_ble_eq_true rfl) rfl ?_
  exact tk_return (pc := 27) d_S_init_27 rfl (Nat.le_of_ble_eq_true rfl) (Nat.le_of_ble_eq_true rfl) ⟨rfl, rfl⟩
theorem m_S_initC {x0 x1 x2 x3 x4 x5 x6 x7 x8 x9 x10 x11 x12 x13 x14 x15 x16 x17 x18 x19 x20 x21 x22 x23 : tk_E} : tk_M y_S_init w_S_init 1 3 137 [.ref 24] (x0 :: x1 :: x2 :: x3 :: x4 :: x5 :: x6 :: x7 :: x8 :: x9 :: x10 :: x11 :: x12 :: x13 :: x14 :: x15 :: x16 :: x17 :: x18 :: x19 :: x20 :: x21 :: x22 :: x23 :: [.inr (4, [.int 0, .null, .null, .null])]) (tk_det (.inl none) (x0 :: x1 :: x2 :: x3 :: x4 :: x5 :: x6 :: x7 :: x8 :: x9 :: x10 :: x11 :: x12 :: x13 :: x14 :: x15 :: x16 :: x17 :: x18 :: x19 :: x20 :: x21 :: x22 :: x23 :: [.inr (4, [.int 0, .ref 25, .ref 26, .ref 27]), ia 5 z0, ia 60 z0, ia 72 z0])) := by
  refine tk_M.of (lv := [some (.ref 24)]) (by decide) (Nat.le_of_ble_eq_true rfl) rfl ?_
  refine tk_aload_n (pc := 0) d_S_init_0 rfl ?_
  refine tk_objInit (pc := 1) d_S_init_1 o_S o_1 o_2 (Nat.le_of_ble_eq_true rfl) ?_
  refine tk_aload_n (pc := 4) d_S_init_4 rfl ?_
  refine tk_iconst (pc := 5) (v := 5) d_S_init_5 (by decide) ?_
  refine tk_newa (pc := 6) (t := 0) (N := 5) (a0 := (5, .inl (fun _ => 0))) d_S_init_6 a_int rfl rfl (fun _ => rfl) rfl (by decide) rfl rfl rfl (Nat.le_of_ble_eq_true rfl) (Nat.le_of_ble_eq_true rfl) ?_
  refine tk_putF (pc := 8) d_S_init_8 g_S_9 p_S_1 rfl rfl rfl rfl (Nat.le_of_ble_eq_true rfl) rfl ?_
  refine tk_aload_n (pc := 11) d_S_init_11 rfl ?_
  refine tk_bipush (pc := 12) (v := 60) d_S_init_12 (by decide) ?_
  refine tk_newa (pc := 14) (t := 0) (N := 60) (a0 := (60, .inl (fun _ => 0))) d_S_init_14 a_int rfl rfl (fun _ => rfl) rfl (by decide) rfl rfl rfl (Nat.le_of_ble_eq_true rfl) (Nat.le_of_ble_eq_true rfl) ?_
  refine tk_putF (pc := 16) d_S_init_16 g_S_15 p_S_2 rfl rfl rfl rfl (Nat.le_of_ble_eq_true rfl) rfl ?_
  refine tk_aload_n (pc := 19) d_S_init_19 rfl ?_
  refine tk_bipush (pc := 20) (v := 72) d_S_init_20 (by decide) ?_
  refine tk_newa (pc := 22) (t := 0) (N := 72) (a0 := (72, .inl (fun _ => 0))) d_S_init_22 a_int rfl rfl (fun _ => rfl) rfl (by decide) rfl rfl rfl (Nat.le_of_ble_eq_true rfl) (Nat.le_of_ble_eq_true rfl) ?_
  refine tk_putF (pc := 24) d_S_init_24 g_S_18 p_S_3 rfl rfl rfl rfl (Nat.le_of_ble_eq_true rfl) rfl ?_
  exact tk_return (pc := 27) d_S_init_27 rfl (Nat.le_of_ble_eq_true rfl) (Nat.le_of_ble_eq_true rfl) ⟨rfl, rfl⟩
theorem m_G_init {x0 : tk_E} : tk_M y_G_init w_G_init 1 6 60 [.ref 1] (x0 :: [.inr (1, [.int 0, .null, .null, .null, .null, .null, .null])]) (tk_det (.inl none) (x0 :: [.inr (1, [.int 0, .ref 2, .ref 3, .ref 4, .ref 5, .ref 6, .ref 7]), ia 5 z0, ia 5 z0, ia 5 z0, ia 5 z0, ia 20 z0, ia 20 z0])) := by
  refine tk_M.of (lv := [some (.ref 1)]) (by decide) (Nat.le_of_ble_eq_true rfl) rfl ?_
  refine tk_aload_n (pc := 0) d_G_init_0 rfl ?_
  refine tk_objInit (pc := 1) d_G_init_1 o_G o_1 o_2 (Nat.le_of_ble_eq_true rfl) ?_
  refine tk_aload_n (pc := 4) d_G_init_4 rfl ?_
  refine tk_iconst (pc := 5) (v := 5) d_G_init_5 (by decide) ?_
  refine tk_newa (pc := 6) (t := 0) (N := 5) (a0 := (5, .inl (fun _ => 0))) d_G_init_6 a_int rfl rfl (fun _ => rfl) rfl (by decide) rfl rfl rfl (Nat.le_of_ble_eq_true rfl) (Nat.le_of_ble_eq_true rfl) ?_
  refine tk_putF (pc := 8) d_G_init_8 g_G_9 p_G_1 rfl rfl rfl rfl (Nat.le_of_ble_eq_true rfl) rfl ?_
  refine tk_aload_n (pc := 11) d_G_init_11 rfl ?_
  refine tk_iconst (pc := 12) (v := 5) d_G_init_12 (by decide) ?_
  refine tk_newa (pc := 13) (t := 0) (N := 5) (a0 := (5, .inl (fun _ => 0))) d_G_init_13 a_int rfl rfl (fun _ => rfl) rfl (by decide) rfl rfl rfl (Nat.le_of_ble_eq_true rfl) (Nat.le_of_ble_eq_true rfl) ?_
  refine tk_putF (pc := 15) d_G_init_15 g_G_15 p_G_2 rfl rfl rfl rfl (Nat.le_of_ble_eq_true rfl) rfl ?_
  refine tk_aload_n (pc := 18) d_G_init_18 rfl ?_
  refine tk_iconst (pc := 19) (v := 5) d_G_init_19 (by decide) ?_
  refine tk_newa (pc := 20) (t := 0) (N := 5) (a0 := (5, .inl (fun _ => 0))) d_G_init_20 a_int rfl rfl (fun _ => rfl) rfl (by decide) rfl rfl rfl (Nat.le_of_ble_eq_true rfl) (Nat.le_of_ble_eq_true rfl) ?_
  refine tk_putF (pc := 22) d_G_init_22 g_G_18 p_G_3 rfl rfl rfl rfl (Nat.le_of_ble_eq_true rfl) rfl ?_
  refine tk_aload_n (pc := 25) d_G_init_25 rfl ?_
  refine tk_iconst (pc := 26) (v := 5) d_G_init_26 (by decide) ?_
  refine tk_newa (pc := 27) (t := 0) (N := 5) (a0 := (5, .inl (fun _ => 0))) d_G_init_27 a_int rfl rfl (fun _ => rfl) rfl (by decide) rfl rfl rfl (Nat.le_of_ble_eq_true rfl) (Nat.le_of_ble_eq_true rfl) ?_
  refine tk_putF (pc := 29) d_G_init_29 g_G_21 p_G_4 rfl rfl rfl rfl (Nat.le_of_ble_eq_true rfl) rfl ?_
  refine tk_aload_n (pc := 32) d_G_init_32 rfl ?_
  refine tk_bipush (pc := 33) (v := 20) d_G_init_33 (by decide) ?_
  refine tk_newa (pc := 35) (t := 0) (N := 20) (a0 := (20, .inl (fun _ => 0))) d_G_init_35 a_int rfl rfl (fun _ => rfl) rfl (by decide) rfl rfl rfl (Nat.le_of_ble_eq_true rfl) (Nat.le_of_ble_eq_true rfl) ?_
  refine tk_putF (pc := 37) d_G_init_37 g_G_24 p_G_5 rfl rfl rfl rfl (Nat.le_of_ble_eq_true rfl) rfl ?_
  refine tk_aload_n (pc := 40) d_G_init_40 rfl ?_
  refine tk_bipush (pc := 41) (v := 20) d_G_init_41 (by decide) ?_
  refine tk_newa (pc := 43) (t := 0) (N := 20) (a0 := (20, .inl (fun _ => 0))) d_G_init_43 a_int rfl rfl (fun _ => rfl) rfl (by decide) rfl rfl rfl (Nat.le_of_ble_eq_true rfl) (Nat.le_of_ble_eq_true rfl) ?_
  refine tk_putF (pc := 45) d_G_init_45 g_G_27 p_G_6 rfl rfl rfl rfl (Nat.le_of_ble_eq_true rfl) rfl ?_
  exact tk_return (pc := 48) d_G_init_48 rfl (Nat.le_of_ble_eq_true rfl) (Nat.le_of_ble_eq_true rfl) ⟨rfl, rfl⟩
theorem m_H_init {x0 x1 x2 x3 x4 x5 x6 x7 : tk_E} : tk_M y_H_init w_H_init 1 7 68 [.ref 8] (x0 :: x1 :: x2 :: x3 :: x4 :: x5 :: x6 :: x7 :: [.inr (2, [.int 0, .null, .null, .null, .null, .null, .null, .null])]) (tk_det (.inl none) (x0 :: x1 :: x2 :: x3 :: x4 :: x5 :: x6 :: x7 :: [.inr (2, [.int 0, .ref 9, .ref 10, .ref 11, .ref 12, .ref 13, .ref 14, .ref 15]), ia 4 z0, ia 4 z0, ia 16 z0, ia 16 z0, ia 4 z0, ia 4 z0, ia 20 z0])) := by
  refine tk_M.of (lv := [some (.ref 8)]) (by decide) (Nat.le_of_ble_eq_true rfl) rfl ?_
  refine tk_aload_n (pc := 0) d_H_init_0 rfl ?_
  refine tk_objInit (pc := 1) d_H_init_1 o_H o_1 o_2 (Nat.le_of_ble_eq_true rfl) ?_
  refine tk_aload_n (pc := 4) d_H_init_4 rfl ?_
  refine tk_iconst (pc := 5) (v := 4) d_H_init_5 (by decide) ?_
  refine tk_newa (pc := 6) (t := 0) (N := 4) (a0 := (4, .inl (fun _ => 0))) d_H_init_6 a_int rfl rfl (fun _ => rfl) rfl (by decide) rfl rfl rfl (Nat.le_of_ble_eq_true rfl) (Nat.le_of_ble_eq_true rfl) ?_
  refine tk_putF (pc := 8) d_H_init_8 g_H_9 p_H_1 rfl rfl rfl rfl (Nat.le_of_ble_eq_true rfl) rfl ?_
  refine tk_aload_n (pc := 11) d_H_init_11 rfl ?_
  refine tk_iconst (pc := 12) (v := 4) d_H_init_12 (by decide) ?_
  refine tk_newa (pc := 13) (t := 0) (N := 4) (a0 := (4, .inl (fun _ => 0))) d_H_init_13 a_int rfl rfl (fun _ => rfl) rfl (by decide) rfl rfl rfl (Nat.le_of_ble_eq_true rfl) (Nat.le_of_ble_eq_true rfl) ?_
  refine tk_putF (pc := 15) d_H_init_15 g_H_15 p_H_2 rfl rfl rfl rfl (Nat.le_of_ble_eq_true rfl) rfl ?_
  refine tk_aload_n (pc := 18) d_H_init_18 rfl ?_
  refine tk_bipush (pc := 19) (v := 16) d_H_init_19 (by decide) ?_
  refine tk_newa (pc := 21) (t := 0) (N := 16) (a0 := (16, .inl (fun _ => 0))) d_H_init_21 a_int rfl rfl (fun _ => rfl) rfl (by decide) rfl rfl rfl (Nat.le_of_ble_eq_true rfl) (Nat.le_of_ble_eq_true rfl) ?_
  refine tk_putF (pc := 23) d_H_init_23 g_H_18 p_H_3 rfl rfl rfl rfl (Nat.le_of_ble_eq_true rfl) rfl ?_
  refine tk_aload_n (pc := 26) d_H_init_26 rfl ?_
  refine tk_bipush (pc := 27) (v := 16) d_H_init_27 (by decide) ?_
  refine tk_newa (pc := 29) (t := 0) (N := 16) (a0 := (16, .inl (fun _ => 0))) d_H_init_29 a_int rfl rfl (fun _ => rfl) rfl (by decide) rfl rfl rfl (Nat.le_of_ble_eq_true rfl) (Nat.le_of_ble_eq_true rfl) ?_
  refine tk_putF (pc := 31) d_H_init_31 g_H_21 p_H_4 rfl rfl rfl rfl (Nat.le_of_ble_eq_true rfl) rfl ?_
  refine tk_aload_n (pc := 34) d_H_init_34 rfl ?_
  refine tk_iconst (pc := 35) (v := 4) d_H_init_35 (by decide) ?_
  refine tk_newa (pc := 36) (t := 0) (N := 4) (a0 := (4, .inl (fun _ => 0))) d_H_init_36 a_int rfl rfl (fun _ => rfl) rfl (by decide) rfl rfl rfl (Nat.le_of_ble_eq_true rfl) (Nat.le_of_ble_eq_true rfl) ?_
  refine tk_putF (pc := 38) d_H_init_38 g_H_24 p_H_5 rfl rfl rfl rfl (Nat.le_of_ble_eq_true rfl) rfl ?_
  refine tk_aload_n (pc := 41) d_H_init_41 rfl ?_
  refine tk_iconst (pc := 42) (v := 4) d_H_init_42 (by decide) ?_
  refine tk_newa (pc := 43) (t := 0) (N := 4) (a0 := (4, .inl (fun _ => 0))) d_H_init_43 a_int rfl rfl (fun _ => rfl) rfl (by decide) rfl rfl rfl (Nat.le_of_ble_eq_true rfl) (Nat.le_of_ble_eq_true rfl) ?_
  refine tk_putF (pc := 45) d_H_init_45 g_H_27 p_H_6 rfl rfl rfl rfl (Nat.le_of_ble_eq_true rfl) rfl ?_
  refine tk_aload_n (pc := 48) d_H_init_48 rfl ?_
  refine tk_bipush (pc := 49) (v := 20) d_H_init_49 (by decide) ?_
  refine tk_newa (pc := 51) (t := 0) (N := 20) (a0 := (20, .inl (fun _ => 0))) d_H_init_51 a_int rfl rfl (fun _ => rfl) rfl (by decide) rfl rfl rfl (Nat.le_of_ble_eq_true rfl) (Nat.le_of_ble_eq_true rfl) ?_
  refine tk_putF (pc := 53) d_H_init_53 g_H_30 p_H_7 rfl rfl rfl rfl (Nat.le_of_ble_eq_true rfl) rfl ?_
  exact tk_return (pc := 56) d_H_init_56 rfl (Nat.le_of_ble_eq_true rfl) (Nat.le_of_ble_eq_true rfl) ⟨rfl, rfl⟩
theorem m_P_init {x0 x1 x2 x3 x4 x5 x6 x7 x8 x9 x10 x11 x12 x13 x14 x15 : tk_E} : tk_M y_P_init w_P_init 2 6 151 [.ref 16] (x0 :: x1 :: x2 :: x3 :: x4 :: x5 :: x6 :: x7 :: x8 :: x9 :: x10 :: x11 :: x12 :: x13 :: x14 :: x15 :: [.inr (3, [.null, .null, .null, .int 0, .int 0, .int 0, .int 0, .int 0])]) (tk_det (.inl none) (x0 :: x1 :: x2 :: x3 :: x4 :: x5 :: x6 :: x7 :: x8 :: x9 :: x10 :: x11 :: x12 :: x13 :: x14 :: x15 :: [.inr (3, [.ref 17, .ref 21, .ref 22, .int 0, .int 0, .int 0, .int 0, .int 0]), .inr (4, [.int 0, .ref 18, .ref 19, .ref 20]), ia 5 z0, ia 60 z0, ia 72 z0, ia 5 z0, ia 5 z0])) := by
  refine tk_M.of (lv := [some (.ref 16)]) (by decide) (Nat.le_of_ble_eq_true rfl) rfl ?_
  refine tk_aload_n (pc := 0) d_P_init_0 rfl ?_
  refine tk_objInit (pc := 1) d_P_init_1 o_P o_1 o_2 (Nat.le_of_ble_eq_true rfl) ?_
  refine tk_aload_n (pc := 4) d_P_init_4 rfl ?_
  refine tk_new (pc := 5) d_P_init_5 nw_P_9 rfl rfl rfl rfl (Nat.le_of_ble_eq_true rfl) (Nat.le_of_ble_eq_true rfl) ?_
  refine tk_dup (pc := 8) d_P_init_8 rfl ?_
  refine tk_callIr (pc := 9) d_P_init_9 l_P_11 k_S_init (m_S_initP (x0 := x0)) rfl rfl (by omega) (Nat.le_of_ble_eq_true rfl) (Nat.le_of_ble_eq_true rfl) (Nat.le_of_ble_eq_true rfl) rfl rfl ?_
  refine tk_putF (pc := 12) d_P_init_12 g_P_12 p_P_0 rfl rfl rfl rfl (Nat.le_of_ble_eq_true rfl) rfl ?_
  refine tk_aload_n (pc := 15) d_P_init_15 rfl ?_
  refine tk_iconst (pc := 16) (v := 5) d_P_init_16 (by decide) ?_
  refine tk_newa (pc := 17) (t := 0) (N := 5) (a0 := (5, .inl (fun _ => 0))) d_P_init_17 a_int rfl rfl (fun _ => rfl) rfl (by decide) rfl rfl rfl (Nat.le_of_ble_eq_true rfl) (Nat.le_of_ble_eq_true rfl) ?_
  refine tk_putF (pc := 19) d_P_init_19 g_P_18 p_P_1 rfl rfl rfl rfl (Nat.le_of_ble_eq_true rfl) rfl ?_
  refine tk_aload_n (pc := 22) d_P_init_22 rfl ?_
  refine tk_iconst (pc := 23) (v := 5) d_P_init_23 (by decide) ?_
  refine tk_newa (pc := 24) (t := 0) (N := 5) (a0 := (5, .inl (fun _ => 0))) d_P_init_24 a_int rfl rfl (fun _ => rfl) rfl (by decide) rfl rfl rfl (Nat.le_of_ble_eq_true rfl) (Nat.le_of_ble_eq_true rfl) ?_
  refine tk_putF (pc := 26) d_P_init_26 g_P_22 p_P_2 rfl rfl rfl rfl (Nat.le_of_ble_eq_true rfl) rfl ?_
  exact tk_return (pc := 29) d_P_init_29 rfl (Nat.le_of_ble_eq_true rfl) (Nat.le_of_ble_eq_true rfl) ⟨rfl, rfl⟩
theorem m_C_init {x0 x1 x2 x3 x4 x5 x6 x7 x8 x9 x10 x11 x12 x13 x14 x15 x16 x17 x18 x19 x20 x21 x22 : tk_E} : tk_M y_C_init w_C_init 2 5 173 [.ref 23] (x0 :: x1 :: x2 :: x3 :: x4 :: x5 :: x6 :: x7 :: x8 :: x9 :: x10 :: x11 :: x12 :: x13 :: x14 :: x15 :: x16 :: x17 :: x18 :: x19 :: x20 :: x21 :: x22 :: [.inr (5, [.null, .null, .int 0])]) (tk_det (.inl none) (x0 :: x1 :: x2 :: x3 :: x4 :: x5 :: x6 :: x7 :: x8 :: x9 :: x10 :: x11 :: x12 :: x13 :: x14 :: x15 :: x16 :: x17 :: x18 :: x19 :: x20 :: x21 :: x22 :: [.inr (5, [.ref 24, .ref 28, .int 0]), .inr (4, [.int 0, .ref 25, .ref 26, .ref 27]), ia 5 z0, ia 60 z0, ia 72 z0, .inl (1, 32, .inr (.inl (fun _ => 0)))])) := by
  refine tk_M.of (lv := [some (.ref 23)]) (by decide) (Nat.le_of_ble_eq_true rfl) rfl ?_
  refine tk_aload_n (pc := 0) d_C_init_0 rfl ?_
  refine tk_objInit (pc := 1) d_C_init_1 o_C o_1 o_2 (Nat.le_of_ble_eq_true rfl) ?_
  refine tk_aload_n (pc := 4) d_C_init_4 rfl ?_
  refine tk_new (pc := 5) d_C_init_5 nw_C_9 rfl rfl rfl rfl (Nat.le_of_ble_eq_true rfl) (Nat.le_of_ble_eq_true rfl) ?_
  refine tk_dup (pc := 8) d_C_init_8 rfl ?_
  refine tk_callIr (pc := 9) d_C_init_9 l_C_11 k_S_init (m_S_initC (x0 := x0)) rfl rfl (by omega) (Nat.le_of_ble_eq_true rfl) (Nat.le_of_ble_eq_true rfl) (Nat.le_of_ble_eq_true rfl) rfl rfl ?_
  refine tk_putF (pc := 12) d_C_init_12 g_C_12 p_C_0 rfl rfl rfl rfl (Nat.le_of_ble_eq_true rfl) rfl ?_
  refine tk_aload_n (pc := 15) d_C_init_15 rfl ?_
  refine tk_bipush (pc := 16) (v := 32) d_C_init_16 (by decide) ?_
  refine tk_newa (pc := 18) (t := 1) (N := 32) (a0 := (32, .inr (.inl (fun _ => 0)))) d_C_init_18 a_long rfl rfl (fun _ => rfl) rfl (by decide) rfl rfl rfl (Nat.le_of_ble_eq_true rfl) (Nat.le_of_ble_eq_true rfl) ?_
  refine tk_putF (pc := 20) d_C_init_20 g_C_18 p_C_1 rfl rfl rfl rfl (Nat.le_of_ble_eq_true rfl) rfl ?_
  exact tk_return (pc := 23) d_C_init_23 rfl (Nat.le_of_ble_eq_true rfl) (Nat.le_of_ble_eq_true rfl) ⟨rfl, rfl⟩
theorem m_CP_init : tk_M y_CP_init w_CP_init 3 28 478 [.ref 0] [.inr (0, [.null, .null, .null, .null])] (tk_det (.inl none) (wd (nI 0, z0, z0, z0, z0, z0, z0) (nI 0, z0, z0, z0, z0, z0, z0, z0) ((0, z0, z0, z0), z0, z0, 0, 0, 0, 0, 0) ((0, z0, z0, z0), fun _ => 0, 0) [])) := by
  refine tk_M.of (lv := [some (.ref 0)]) (by decide) (Nat.le_of_ble_eq_true rfl) rfl ?_
  refine tk_aload_n (pc := 0) d_CP_init_0 rfl ?_
  refine tk_objInit (pc := 1) d_CP_init_1 o_CP o_1 o_2 (Nat.le_of_ble_eq_true rfl) ?_
  refine tk_aload_n (pc := 4) d_CP_init_4 rfl ?_
  refine tk_new (pc := 5) d_CP_init_5 nw_CP_7 rfl rfl rfl rfl (Nat.le_of_ble_eq_true rfl) (Nat.le_of_ble_eq_true rfl) ?_
  refine tk_dup (pc := 8) d_CP_init_8 rfl ?_
  refine tk_callIr (pc := 9) d_CP_init_9 l_CP_9 k_G_init (m_G_init) rfl rfl (by omega) (Nat.le_of_ble_eq_true rfl) (Nat.le_of_ble_eq_true rfl) (Nat.le_of_ble_eq_true rfl) rfl rfl ?_
  refine tk_putF (pc := 12) d_CP_init_12 g_CP_10 p_CP_0 rfl rfl rfl rfl (Nat.le_of_ble_eq_true rfl) rfl ?_
  refine tk_aload_n (pc := 15) d_CP_init_15 rfl ?_
  refine tk_new (pc := 16) d_CP_init_16 nw_CP_16 rfl rfl rfl rfl (Nat.le_of_ble_eq_true rfl) (Nat.le_of_ble_eq_true rfl) ?_
  refine tk_dup (pc := 19) d_CP_init_19 rfl ?_
  refine tk_callIr (pc := 20) d_CP_init_20 l_CP_18 k_H_init (m_H_init) rfl rfl (by omega) (Nat.le_of_ble_eq_true rfl) (Nat.le_of_ble_eq_true rfl) (Nat.le_of_ble_eq_true rfl) rfl rfl ?_
  refine tk_putF (pc := 23) d_CP_init_23 g_CP_19 p_CP_1 rfl rfl rfl rfl (Nat.le_of_ble_eq_true rfl) rfl ?_
  refine tk_aload_n (pc := 26) d_CP_init_26 rfl ?_
  refine tk_new (pc := 27) d_CP_init_27 nw_CP_23 rfl rfl rfl rfl (Nat.le_of_ble_eq_true rfl) (Nat.le_of_ble_eq_true rfl) ?_
  refine tk_dup (pc := 30) d_CP_init_30 rfl ?_
  refine tk_callIr (pc := 31) d_CP_init_31 l_CP_25 k_P_init (m_P_init) rfl rfl (by omega) (Nat.le_of_ble_eq_true rfl) (Nat.le_of_ble_eq_true rfl) (Nat.le_of_ble_eq_true rfl) rfl rfl ?_
  refine tk_putF (pc := 34) d_CP_init_34 g_CP_26 p_CP_2 rfl rfl rfl rfl (Nat.le_of_ble_eq_true rfl) rfl ?_
  refine tk_aload_n (pc := 37) d_CP_init_37 rfl ?_
  refine tk_new (pc := 38) d_CP_init_38 nw_CP_30 rfl rfl rfl rfl (Nat.le_of_ble_eq_true rfl) (Nat.le_of_ble_eq_true rfl) ?_
  refine tk_dup (pc := 41) d_CP_init_41 rfl ?_
  refine tk_callIr (pc := 42) d_CP_init_42 l_CP_32 k_C_init (m_C_init) rfl rfl (by omega) (Nat.le_of_ble_eq_true rfl) (Nat.le_of_ble_eq_true rfl) (Nat.le_of_ble_eq_true rfl) rfl rfl ?_
  refine tk_putF (pc := 45) d_CP_init_45 g_CP_33 p_CP_3 rfl rfl rfl rfl (Nat.le_of_ble_eq_true rfl) rfl ?_
  exact tk_return (pc := 48) d_CP_init_48 rfl (Nat.le_of_ble_eq_true rfl) (Nat.le_of_ble_eq_true rfl) ⟨rfl, rfl⟩
end
section
/-! ===== the reference: its cells at the places 29 to 44; behind them the law's long[1] ===== -/
abbrev md (th gn : Int32) (mk mc ms ml ma mb : Ar) (hn : Int32) (le gr mo hl hu pc pl : Ar) (aq sp st : Int32) (nw br : Ar) (o : Nat → Int64) : tk_W :=
  .inr (6, [.int th, .int gn, .ref 30, .ref 31, .ref 32, .ref 33, .ref 34, .ref 35, .int hn, .ref 36, .ref 37, .ref 38, .ref 39, .ref 40, .ref 41, .ref 42, .int aq, .int sp, .int st, .ref 43, .ref 44]) ::
  ia 5 mk :: ia 5 mc :: ia 5 ms :: ia 5 ml :: ia 20 ma :: ia 20 mb :: ia 4 le :: ia 4 gr :: ia 4 mo :: ia 16 hl :: ia 16 hu :: ia 4 pc :: ia 20 pl :: ia 5 nw :: .inl (2, 2048, .inl br) :: [.inl (1, 1, .inr (.inl o))]
theorem lt64 (x y : Int32) : x.toInt64 < y.toInt64 ↔ x < y := by
  rw [Int64.lt_iff_toInt_lt, Int32.lt_iff_toInt_lt, Int32.toInt_toInt64, Int32.toInt_toInt64]
theorem le64 (x y : Int32) : x.toInt64 ≤ y.toInt64 ↔ x ≤ y := by
  rw [Int64.le_iff_toInt_le, Int32.le_iff_toInt_le, Int32.toInt_toInt64, Int32.toInt_toInt64]
theorem m_in {w : tk_W} {v a b : Int64} : tk_M y_M_in w_M_in 0 0 0 [.long v, .long a, .long b] w (tk_det (.inl (some (.int (if v < a ∨ b < v then 0 else 1)))) w) := by
  refine tk_M.of (lv := [some (.long v), none, some (.long a), none, some (.long b), none]) (by decide) (Nat.le_of_ble_eq_true rfl) rfl ?_
  refine tk_lload_n (pc := 0) d_M_in_0 rfl ?_
  refine tk_lload_n (pc := 1) d_M_in_1 rfl ?_
  refine tk_lcmp (pc := 2) d_M_in_2 ?_
  refine tk_if_lt (pc := 3) (tgt := 17) d_M_in_3 (by decide) (fun hb => ?_) (fun hb => ?_)
  · refine tk_iconst (pc := 17) (v := 0) d_M_in_17 (by decide) ?_
    exact tk_ireturn (pc := 18) d_M_in_18 rfl rfl (Nat.le_of_ble_eq_true rfl) (Nat.le_of_ble_eq_true rfl) ⟨by rw [if_pos (Or.inl ((lg_cmp_lt _ _).mp hb))], rfl⟩
  refine tk_lload_n (pc := 6) d_M_in_6 rfl ?_
  refine tk_lload (pc := 7) d_M_in_7 rfl ?_
  refine tk_lcmp (pc := 9) d_M_in_9 ?_
  refine tk_if_gt (pc := 10) (tgt := 17) d_M_in_10 (by decide) (fun hc => ?_) (fun hc => ?_)
  · refine tk_iconst (pc := 17) (v := 0) d_M_in_17 (by decide) ?_
    exact tk_ireturn (pc := 18) d_M_in_18 rfl rfl (Nat.le_of_ble_eq_true rfl) (Nat.le_of_ble_eq_true rfl) ⟨by rw [if_pos (Or.inr ((lg_cmp_gt _ _).mp hc))], rfl⟩
  · refine tk_iconst (pc := 13) (v := 1) d_M_in_13 (by decide) ?_
    refine tk_goto (pc := 14) (tgt := 18) d_M_in_14 (by decide) ?_
    exact tk_ireturn (pc := 18) d_M_in_18 rfl rfl (Nat.le_of_ble_eq_true rfl) (Nat.le_of_ble_eq_true rfl) ⟨by rw [if_neg (fun q => q.elim (fun z => hb ((lg_cmp_lt _ _).mpr z)) (fun z => hc ((lg_cmp_gt _ _).mpr z)))], rfl⟩
/-- .. of an int -/
theorem m_inI {w : tk_W} {x lo hi : Int32} {A B : Int64} (hA : lo.toInt64 = A) (hB : hi.toInt64 = B) : tk_M y_M_in w_M_in 0 0 0 [.long x.toInt64, .long A, .long B] w (tk_det (.inl (some (.int (if x < lo ∨ hi < x then 0 else 1)))) w) := by
  have e : (x < lo ∨ hi < x) ↔ (x.toInt64 < A ∨ B < x.toInt64) := by rw [← hA, ← hB, lt64, lt64]
  have h := m_in (w := w) (v := x.toInt64) (a := A) (b := B)
  by_cases q : x < lo ∨ hi < x
  · rw [if_pos q]; rw [if_pos (e.mp q)] at h; exact h
  · rw [if_neg q]; rw [if_neg (fun z => q (e.mpr z))] at h; exact h
theorem m_in_yes {w : tk_W} {x lo hi : Int32} {A B : Int64} (hA : lo.toInt64 = A) (hB : hi.toInt64 = B) (h : ¬ (x < lo ∨ hi < x)) : tk_M y_M_in w_M_in 0 0 0 [.long x.toInt64, .long A, .long B] w (tk_det (.inl (some (.int 1))) w) := by
  have := m_inI (w := w) (x := x) hA hB
  rw [if_neg h] at this; exact this
theorem m_in_no {w : tk_W} {x lo hi : Int32} {A B : Int64} (hA : lo.toInt64 = A) (hB : hi.toInt64 = B) (h : x < lo ∨ hi < x) : tk_M y_M_in w_M_in 0 0 0 [.long x.toInt64, .long A, .long B] w (tk_det (.inl (some (.int 0))) w) := by
  have := m_inI (w := w) (x := x) hA hB
  rw [if_pos h] at this; exact this
theorem pred_lt {i : Int32} {n : Nat} (hn : n < 100) : (nI n - 1 < i) ↔ ¬ i < nI n := by
  have e1 : (nI n - 1).toInt = (n : Int) - 1 := pk_sub_toInt (b := 1) (by omega) (by omega)
  rw [Int32.lt_iff_toInt_lt, Int32.lt_iff_toInt_lt, e1, nI_toInt (by omega)]
  omega
def thF (a b c : Int32) : Int32 := if a = 0 then (if b = 0 then (if c = 0 then 0 else 3) else 2) else 1
section REF1
variable {g : sG} {h : sH} {p : sP} {c : sC} {th gn : Int32} {mk mc ms ml ma mb : Ar} {hn : Int32} {le gr mo hl hu pc pl : Ar} {aq sp st : Int32} {nw br : Ar} {o : Nat → Int64}
theorem m_thrown : tk_M y_M_thrown w_M_thrown 0 0 0 [.ref 29] (wd g h p c (md th gn mk mc ms ml ma mb hn le gr mo hl hu pc pl aq sp st nw br o)) (tk_det (.inl (some (.int th))) (wd g h p c (md th gn mk mc ms ml ma mb hn le gr mo hl hu pc pl aq sp st nw br o))) := by
  refine tk_M.of (lv := [some (.ref 29)]) (by decide) (Nat.le_of_ble_eq_true rfl) rfl ?_
  refine tk_aload_n (pc := 0) d_M_thrown_0 rfl ?_
  refine tk_get (pc := 1) d_M_thrown_1 f_M_56 rfl rfl ?_
  exact tk_ireturn (pc := 4) d_M_thrown_4 rfl rfl (Nat.le_of_ble_eq_true rfl) (Nat.le_of_ble_eq_true rfl) ⟨rfl, rfl⟩
theorem m_throwing {x y z : Int32} : tk_M y_M_throwing w_M_throwing 0 0 0 [.ref 29, .int x, .int y, .int z] (wd g h p c (md th gn mk mc ms ml ma mb hn le gr mo hl hu pc pl aq sp st nw br o)) (tk_det (.inl (some (.int (if thF x y z ≤ 0 then 0 else 1)))) (wd g h p c (md (thF x y z) gn mk mc ms ml ma mb hn le gr mo hl hu pc pl aq sp st nw br o))) := by
  refine tk_M.of (lv := [some (.ref 29), some (.int x), some (.int y), some (.int z)]) (by decide) (Nat.le_of_ble_eq_true rfl) rfl ?_
  have tail : ∀ v : Int32, v = thF x y z → tk_T y_M_throwing c_M_throwing 4 (some .boolean) [] 0 0 0 (fun _ => none) 0 0 (tk_det (.inl (some (.int (if thF x y z ≤ 0 then 0 else 1)))) (wd g h p c (md (thF x y z) gn mk mc ms ml ma mb hn le gr mo hl hu pc pl aq sp st nw br o))) 26 [some (.ref 29), some (.int x), some (.int y), some (.int z)] [.int v, .ref 29] (wd g h p c (md th gn mk mc ms ml ma mb hn le gr mo hl hu pc pl aq sp st nw br o)) := by
    intro v hv
    subst hv
    refine tk_put (pc := 26) d_M_throwing_26 f_M_56 p_M_0 rfl rfl rfl (Nat.le_of_ble_eq_true rfl) rfl ?_
    refine tk_aload_n (pc := 29) d_M_throwing_29 rfl ?_
    refine tk_get (pc := 30) d_M_throwing_30 f_M_56 rfl rfl ?_
    refine tk_if_le (pc := 33) (tgt := 40) d_M_throwing_33 (by decide) (fun hb => ?_) (fun hb => ?_)
    · refine tk_iconst (pc := 40) (v := 0) d_M_throwing_40 (by decide) ?_
      exact tk_ireturn (pc := 41) d_M_throwing_41 rfl rfl (Nat.le_of_ble_eq_true rfl) (Nat.le_of_ble_eq_true rfl) ⟨by rw [if_pos hb], rfl⟩
    · refine tk_iconst (pc := 36) (v := 1) d_M_throwing_36 (by decide) ?_
      refine tk_goto (pc := 37) (tgt := 41) d_M_throwing_37 (by decide) ?_
      exact tk_ireturn (pc := 41) d_M_throwing_41 rfl rfl (Nat.le_of_ble_eq_true rfl) (Nat.le_of_ble_eq_true rfl) ⟨by rw [if_neg hb], rfl⟩
  refine tk_aload_n (pc := 0) d_M_throwing_0 rfl ?_
  refine tk_iload_n (pc := 1) d_M_throwing_1 rfl ?_
  refine tk_if_eq (pc := 2) (tgt := 9) d_M_throwing_2 (by decide) (fun h1 => ?_) (fun h1 => ?_)
  · refine tk_iload_n (pc := 9) d_M_throwing_9 rfl ?_
    refine tk_if_eq (pc := 10) (tgt := 17) d_M_throwing_10 (by decide) (fun h2 => ?_) (fun h2 => ?_)
    · refine tk_iload_n (pc := 17) d_M_throwing_17 rfl ?_
      refine tk_if_eq (pc := 18) (tgt := 25) d_M_throwing_18 (by decide) (fun h3 => ?_) (fun h3 => ?_)
      · refine tk_iconst (pc := 25) (v := 0) d_M_throwing_25 (by decide) ?_
        exact tail 0 (by simp only [thF]; rw [if_pos h1, if_pos h2, if_pos h3])
      · refine tk_iconst (pc := 21) (v := 3) d_M_throwing_21 (by decide) ?_
        refine tk_goto (pc := 22) (tgt := 26) d_M_throwing_22 (by decide) ?_
        exact tail 3 (by simp only [thF]; rw [if_pos h1, if_pos h2, if_neg h3])
    · refine tk_iconst (pc := 13) (v := 2) d_M_throwing_13 (by decide) ?_
      refine tk_goto (pc := 14) (tgt := 26) d_M_throwing_14 (by decide) ?_
      exact tail 2 (by simp only [thF]; rw [if_pos h1, if_neg h2])
  · refine tk_iconst (pc := 5) (v := 1) d_M_throwing_5 (by decide) ?_
    refine tk_goto (pc := 6) (tgt := 26) d_M_throwing_6 (by decide) ?_
    exact tail 1 (by simp only [thF]; rw [if_neg h1])
theorem m_t1 {y z : Int32} : tk_M y_M_throwing w_M_throwing 0 0 0 [.ref 29, .int 1, .int y, .int z] (wd g h p c (md th gn mk mc ms ml ma mb hn le gr mo hl hu pc pl aq sp st nw br o)) (tk_det (.inl (some (.int 1))) (wd g h p c (md 1 gn mk mc ms ml ma mb hn le gr mo hl hu pc pl aq sp st nw br o))) := m_throwing (x := 1)
theorem m_t2 {z : Int32} : tk_M y_M_throwing w_M_throwing 0 0 0 [.ref 29, .int 0, .int 1, .int z] (wd g h p c (md th gn mk mc ms ml ma mb hn le gr mo hl hu pc pl aq sp st nw br o)) (tk_det (.inl (some (.int 1))) (wd g h p c (md 2 gn mk mc ms ml ma mb hn le gr mo hl hu pc pl aq sp st nw br o))) := m_throwing (x := 0) (y := 1)
theorem m_t3 : tk_M y_M_throwing w_M_throwing 0 0 0 [.ref 29, .int 0, .int 0, .int 1] (wd g h p c (md th gn mk mc ms ml ma mb hn le gr mo hl hu pc pl aq sp st nw br o)) (tk_det (.inl (some (.int 1))) (wd g h p c (md 3 gn mk mc ms ml ma mb hn le gr mo hl hu pc pl aq sp st nw br o))) := m_throwing (x := 0) (y := 0) (z := 1)
theorem m_t0 : tk_M y_M_throwing w_M_throwing 0 0 0 [.ref 29, .int 0, .int 0, .int 0] (wd g h p c (md th gn mk mc ms ml ma mb hn le gr mo hl hu pc pl aq sp st nw br o)) (tk_det (.inl (some (.int 0))) (wd g h p c (md 0 gn mk mc ms ml ma mb hn le gr mo hl hu pc pl aq sp st nw br o))) := m_throwing (x := 0) (y := 0) (z := 0)
theorem m_isGood {n : Nat} {i : Int32} (hn' : n < 100) : tk_M y_M_isGood w_M_isGood 1 0 0 [.ref 29, .int i] (wd g h p c (md th (nI n) mk mc ms ml ma mb hn le gr mo hl hu pc pl aq sp st nw br o)) (tk_det (.inl (some (.int (if i < 0 ∨ ¬ i < nI n then 0 else 1)))) (wd g h p c (md th (nI n) mk mc ms ml ma mb hn le gr mo hl hu pc pl aq sp st nw br o))) := by
  refine tk_M.of (lv := [some (.ref 29), some (.int i)]) (by decide) (Nat.le_of_ble_eq_true rfl) rfl ?_
  refine tk_iload_n (pc := 0) d_M_isGood_0 rfl ?_
  refine tk_i2l (pc := 1) d_M_isGood_1 ?_
  refine tk_lconst (pc := 2) (v := 0) d_M_isGood_2 (by decide) ?_
  refine tk_aload_n (pc := 3) d_M_isGood_3 rfl ?_
  refine tk_get (pc := 4) d_M_isGood_4 f_M_60 rfl rfl ?_
  refine tk_iconst (pc := 7) (v := 1) d_M_isGood_7 (by decide) ?_
  refine tk_isub (pc := 8) d_M_isGood_8 ?_
  refine tk_i2l (pc := 9) d_M_isGood_9 ?_
  refine tk_callSr (pc := 10) d_M_isGood_10 l_M_63 k_M_in (m_inI (x := i) (lo := 0) (hi := nI n - 1) rfl rfl) rfl (by omega) (Nat.le_of_ble_eq_true rfl) (Nat.le_of_ble_eq_true rfl) (Nat.le_of_ble_eq_true rfl) rfl rfl ?_
  by_cases hb : i < 0 ∨ nI n - 1 < i
  · rw [if_pos hb]
    exact tk_ireturn (pc := 13) d_M_isGood_13 rfl rfl (Nat.le_of_ble_eq_true rfl) (Nat.le_of_ble_eq_true rfl) ⟨by rw [if_pos (hb.imp id (pred_lt hn').mp)], rfl⟩
  · rw [if_neg hb]
    exact tk_ireturn (pc := 13) d_M_isGood_13 rfl rfl (Nat.le_of_ble_eq_true rfl) (Nat.le_of_ble_eq_true rfl) ⟨by rw [if_neg (fun q => hb (q.imp id (pred_lt hn').mpr))], rfl⟩
theorem m_isGood_y {n i : Nat} (hi : i < n) (hn' : n < 100) : tk_M y_M_isGood w_M_isGood 1 0 0 [.ref 29, .int (nI i)] (wd g h p c (md th (nI n) mk mc ms ml ma mb hn le gr mo hl hu pc pl aq sp st nw br o)) (tk_det (.inl (some (.int 1))) (wd g h p c (md th (nI n) mk mc ms ml ma mb hn le gr mo hl hu pc pl aq sp st nw br o))) := by
  have := m_isGood (g := g) (h := h) (p := p) (c := c) (th := th) (mk := mk) (mc := mc) (ms := ms) (ml := ml) (ma := ma) (mb := mb) (hn := hn) (le := le) (gr := gr) (mo := mo) (hl := hl) (hu := hu) (pc := pc) (pl := pl) (aq := aq) (sp := sp) (st := st) (nw := nw) (br := br) (o := o) (i := nI i) hn'
  rw [if_neg (fun q => q.elim (nI_pos (by omega)) (fun z => z (nI_lt hi (by omega))))] at this
  exact this
theorem m_isGood_n {n : Nat} {i : Int32} (hi : i < 0 ∨ ¬ i < nI n) (hn' : n < 100) : tk_M y_M_isGood w_M_isGood 1 0 0 [.ref 29, .int i] (wd g h p c (md th (nI n) mk mc ms ml ma mb hn le gr mo hl hu pc pl aq sp st nw br o)) (tk_det (.inl (some (.int 0))) (wd g h p c (md th (nI n) mk mc ms ml ma mb hn le gr mo hl hu pc pl aq sp st nw br o))) := by
  have := m_isGood (g := g) (h := h) (p := p) (c := c) (th := th) (mk := mk) (mc := mc) (ms := ms) (ml := ml) (ma := ma) (mb := mb) (hn := hn) (le := le) (gr := gr) (mo := mo) (hl := hl) (hu := hu) (pc := pc) (pl := pl) (aq := aq) (sp := sp) (st := st) (nw := nw) (br := br) (o := o) (i := i) hn'
  rw [if_pos hi] at this
  exact this
theorem m_isHeat {n : Nat} {i : Int32} (hn' : n < 100) : tk_M y_M_isHeat w_M_isHeat 1 0 0 [.ref 29, .int i] (wd g h p c (md th gn mk mc ms ml ma mb (nI n) le gr mo hl hu pc pl aq sp st nw br o)) (tk_det (.inl (some (.int (if i < 0 ∨ ¬ i < nI n then 0 else 1)))) (wd g h p c (md th gn mk mc ms ml ma mb (nI n) le gr mo hl hu pc pl aq sp st nw br o))) := by
  refine tk_M.of (lv := [some (.ref 29), some (.int i)]) (by decide) (Nat.le_of_ble_eq_true rfl) rfl ?_
  refine tk_iload_n (pc := 0) d_M_isHeat_0 rfl ?_
  refine tk_i2l (pc := 1) d_M_isHeat_1 ?_
  refine tk_lconst (pc := 2) (v := 0) d_M_isHeat_2 (by decide) ?_
  refine tk_aload_n (pc := 3) d_M_isHeat_3 rfl ?_
  refine tk_get (pc := 4) d_M_isHeat_4 f_M_67 rfl rfl ?_
  refine tk_iconst (pc := 7) (v := 1) d_M_isHeat_7 (by decide) ?_
  refine tk_isub (pc := 8) d_M_isHeat_8 ?_
  refine tk_i2l (pc := 9) d_M_isHeat_9 ?_
  refine tk_callSr (pc := 10) d_M_isHeat_10 l_M_63 k_M_in (m_inI (x := i) (lo := 0) (hi := nI n - 1) rfl rfl) rfl (by omega) (Nat.le_of_ble_eq_true rfl) (Nat.le_of_ble_eq_true rfl) (Nat.le_of_ble_eq_true rfl) rfl rfl ?_
  by_cases hb : i < 0 ∨ nI n - 1 < i
  · rw [if_pos hb]
    exact tk_ireturn (pc := 13) d_M_isHeat_13 rfl rfl (Nat.le_of_ble_eq_true rfl) (Nat.le_of_ble_eq_true rfl) ⟨by rw [if_pos (hb.imp id (pred_lt hn').mp)], rfl⟩
  · rw [if_neg hb]
    exact tk_ireturn (pc := 13) d_M_isHeat_13 rfl rfl (Nat.le_of_ble_eq_true rfl) (Nat.le_of_ble_eq_true rfl) ⟨by rw [if_neg (fun q => hb (q.imp id (pred_lt hn').mpr))], rfl⟩
theorem m_isHeat_y {n i : Nat} (hi : i < n) (hn' : n < 100) : tk_M y_M_isHeat w_M_isHeat 1 0 0 [.ref 29, .int (nI i)] (wd g h p c (md th gn mk mc ms ml ma mb (nI n) le gr mo hl hu pc pl aq sp st nw br o)) (tk_det (.inl (some (.int 1))) (wd g h p c (md th gn mk mc ms ml ma mb (nI n) le gr mo hl hu pc pl aq sp st nw br o))) := by
  have := m_isHeat (g := g) (h := h) (p := p) (c := c) (th := th) (gn := gn) (mk := mk) (mc := mc) (ms := ms) (ml := ml) (ma := ma) (mb := mb) (le := le) (gr := gr) (mo := mo) (hl := hl) (hu := hu) (pc := pc) (pl := pl) (aq := aq) (sp := sp) (st := st) (nw := nw) (br := br) (o := o) (i := nI i) hn'
  rw [if_neg (fun q => q.elim (nI_pos (by omega)) (fun z => z (nI_lt hi (by omega))))] at this
  exact this
theorem m_isHeat_n {n : Nat} {i : Int32} (hi : i < 0 ∨ ¬ i < nI n) (hn' : n < 100) : tk_M y_M_isHeat w_M_isHeat 1 0 0 [.ref 29, .int i] (wd g h p c (md th gn mk mc ms ml ma mb (nI n) le gr mo hl hu pc pl aq sp st nw br o)) (tk_det (.inl (some (.int 0))) (wd g h p c (md th gn mk mc ms ml ma mb (nI n) le gr mo hl hu pc pl aq sp st nw br o))) := by
  have := m_isHeat (g := g) (h := h) (p := p) (c := c) (th := th) (gn := gn) (mk := mk) (mc := mc) (ms := ms) (ml := ml) (ma := ma) (mb := mb) (le := le) (gr := gr) (mo := mo) (hl := hl) (hu := hu) (pc := pc) (pl := pl) (aq := aq) (sp := sp) (st := st) (nw := nw) (br := br) (o := o) (i := i) hn'
  rw [if_pos hi] at this
  exact this
theorem m_isSpan_y {a b : Int32} {w : tk_W} (h1 : ¬ (a < 0 ∨ 10000 < a)) (h2 : ¬ (b < a ∨ 10000 < b)) : tk_M y_M_isSpan w_M_isSpan 1 0 0 [.int a, .int b] w (tk_det (.inl (some (.int 1))) w) := by
  refine tk_M.of (lv := [some (.int a), some (.int b)]) (by decide) (Nat.le_of_ble_eq_true rfl) rfl ?_
  refine tk_iload_n (pc := 0) d_M_isSpan_0 rfl ?_
  refine tk_i2l (pc := 1) d_M_isSpan_1 ?_
  refine tk_lconst (pc := 2) (v := 0) d_M_isSpan_2 (by decide) ?_
  refine tk_ldc2 (pc := 3) d_M_isSpan_3 q_M_80 ?_
  refine tk_callSr (pc := 6) d_M_isSpan_6 l_M_63 k_M_in (m_in_yes (x := a) (lo := 0) (hi := 10000) rfl rfl h1) rfl (by omega) (Nat.le_of_ble_eq_true rfl) (Nat.le_of_ble_eq_true rfl) (Nat.le_of_ble_eq_true rfl) rfl rfl ?_
  refine tk_if_eq (pc := 9) (tgt := 29) d_M_isSpan_9 (by decide) (fun hb => ?_) (fun hb => ?_)
  · exact absurd hb (by decide)
  refine tk_iload_n (pc := 12) d_M_isSpan_12 rfl ?_
  refine tk_i2l (pc := 13) d_M_isSpan_13 ?_
  refine tk_iload_n (pc := 14) d_M_isSpan_14 rfl ?_
  refine tk_i2l (pc := 15) d_M_isSpan_15 ?_
  refine tk_ldc2 (pc := 16) d_M_isSpan_16 q_M_80 ?_
  refine tk_callSr (pc := 19) d_M_isSpan_19 l_M_63 k_M_in (m_in_yes (x := b) (lo := a) (hi := 10000) rfl rfl h2) rfl (by omega) (Nat.le_of_ble_eq_true rfl) (Nat.le_of_ble_eq_true rfl) (Nat.le_of_ble_eq_true rfl) rfl rfl ?_
  refine tk_if_eq (pc := 22) (tgt := 29) d_M_isSpan_22 (by decide) (fun hb => ?_) (fun hb => ?_)
  · exact absurd hb (by decide)
  refine tk_iconst (pc := 25) (v := 1) d_M_isSpan_25 (by decide) ?_
  refine tk_goto (pc := 26) (tgt := 30) d_M_isSpan_26 (by decide) ?_
  exact tk_ireturn (pc := 30) d_M_isSpan_30 rfl rfl (Nat.le_of_ble_eq_true rfl) (Nat.le_of_ble_eq_true rfl) ⟨rfl, rfl⟩
theorem m_isSpan_n {a b : Int32} {w : tk_W} (h0 : (a < 0 ∨ 10000 < a) ∨ (b < a ∨ 10000 < b)) : tk_M y_M_isSpan w_M_isSpan 1 0 0 [.int a, .int b] w (tk_det (.inl (some (.int 0))) w) := by
  refine tk_M.of (lv := [some (.int a), some (.int b)]) (by decide) (Nat.le_of_ble_eq_true rfl) rfl ?_
  refine tk_iload_n (pc := 0) d_M_isSpan_0 rfl ?_
  refine tk_i2l (pc := 1) d_M_isSpan_1 ?_
  refine tk_lconst (pc := 2) (v := 0) d_M_isSpan_2 (by decide) ?_
  refine tk_ldc2 (pc := 3) d_M_isSpan_3 q_M_80 ?_
  by_cases h1 : a < 0 ∨ 10000 < a
  · refine tk_callSr (pc := 6) d_M_isSpan_6 l_M_63 k_M_in (m_in_no (x := a) (lo := 0) (hi := 10000) rfl rfl h1) rfl (by omega) (Nat.le_of_ble_eq_true rfl) (Nat.le_of_ble_eq_true rfl) (Nat.le_of_ble_eq_true rfl) rfl rfl ?_
    refine tk_if_eq (pc := 9) (tgt := 29) d_M_isSpan_9 (by decide) (fun hb => ?_) (fun hb => ?_)
    · refine tk_iconst (pc := 29) (v := 0) d_M_isSpan_29 (by decide) ?_
      exact tk_ireturn (pc := 30) d_M_isSpan_30 rfl rfl (Nat.le_of_ble_eq_true rfl) (Nat.le_of_ble_eq_true rfl) ⟨rfl, rfl⟩
    · exact absurd rfl hb
  refine tk_callSr (pc := 6) d_M_isSpan_6 l_M_63 k_M_in (m_in_yes (x := a) (lo := 0) (hi := 10000) rfl rfl h1) rfl (by omega) (Nat.le_of_ble_eq_true rfl) (Nat.le_of_ble_eq_true rfl) (Nat.le_of_ble_eq_true rfl) rfl rfl ?_
  refine tk_if_eq (pc := 9) (tgt := 29) d_M_isSpan_9 (by decide) (fun hb => ?_) (fun hb => ?_)
  · exact absurd hb (by decide)
  refine tk_iload_n (pc := 12) d_M_isSpan_12 rfl ?_
  refine tk_i2l (pc := 13) d_M_isSpan_13 ?_
  refine tk_iload_n (pc := 14) d_M_isSpan_14 rfl ?_
  refine tk_i2l (pc := 15) d_M_isSpan_15 ?_
  refine tk_ldc2 (pc := 16) d_M_isSpan_16 q_M_80 ?_
  refine tk_callSr (pc := 19) d_M_isSpan_19 l_M_63 k_M_in (m_in_no (x := b) (lo := a) (hi := 10000) rfl rfl (h0.resolve_left h1)) rfl (by omega) (Nat.le_of_ble_eq_true rfl) (Nat.le_of_ble_eq_true rfl) (Nat.le_of_ble_eq_true rfl) rfl rfl ?_
  refine tk_if_eq (pc := 22) (tgt := 29) d_M_isSpan_22 (by decide) (fun hb => ?_) (fun hb => ?_)
  · refine tk_iconst (pc := 29) (v := 0) d_M_isSpan_29 (by decide) ?_
    exact tk_ireturn (pc := 30) d_M_isSpan_30 rfl rfl (Nat.le_of_ble_eq_true rfl) (Nat.le_of_ble_eq_true rfl) ⟨rfl, rfl⟩
  · exact absurd rfl hb
def tpm (ms ml : Ar) (k : Nat) : Int32 := if ml k ≤ ms k then ml k else ms k
theorem m_top {k : Nat} (hk : k < 5) : tk_M y_M_top w_M_top 0 0 0 [.ref 29, .int (nI k)] (wd g h p c (md th gn mk mc ms ml ma mb hn le gr mo hl hu pc pl aq sp st nw br o)) (tk_det (.inl (some (.int (tpm ms ml k)))) (wd g h p c (md th gn mk mc ms ml ma mb hn le gr mo hl hu pc pl aq sp st nw br o))) := by
  refine tk_M.of (lv := [some (.ref 29), some (.int (nI k))]) (by decide) (Nat.le_of_ble_eq_true rfl) rfl ?_
  refine tk_aload_n (pc := 0) d_M_top_0 rfl ?_
  refine tk_get (pc := 1) d_M_top_1 f_M_16 rfl rfl ?_
  refine tk_iload_n (pc := 4) d_M_top_4 rfl ?_
  refine tk_iald (pc := 5) k d_M_top_5 rfl rfl hk (by decide) ?_
  refine tk_aload_n (pc := 6) d_M_top_6 rfl ?_
  refine tk_get (pc := 7) d_M_top_7 f_M_19 rfl rfl ?_
  refine tk_iload_n (pc := 10) d_M_top_10 rfl ?_
  refine tk_iald (pc := 11) k d_M_top_11 rfl rfl hk (by decide) ?_
  refine tk_icmp_ge (pc := 12) (tgt := 24) d_M_top_12 (by decide) (fun hb => ?_) (fun hb => ?_)
  · refine tk_aload_n (pc := 24) d_M_top_24 rfl ?_
    refine tk_get (pc := 25) d_M_top_25 f_M_19 rfl rfl ?_
    refine tk_iload_n (pc := 28) d_M_top_28 rfl ?_
    refine tk_iald (pc := 29) k d_M_top_29 rfl rfl hk (by decide) ?_
    exact tk_ireturn (pc := 30) d_M_top_30 rfl rfl (Nat.le_of_ble_eq_true rfl) (Nat.le_of_ble_eq_true rfl) ⟨by simp only [tpm]; rw [if_pos hb], rfl⟩
  · refine tk_aload_n (pc := 15) d_M_top_15 rfl ?_
    refine tk_get (pc := 16) d_M_top_16 f_M_16 rfl rfl ?_
    refine tk_iload_n (pc := 19) d_M_top_19 rfl ?_
    refine tk_iald (pc := 20) k d_M_top_20 rfl rfl hk (by decide) ?_
    refine tk_goto (pc := 21) (tgt := 30) d_M_top_21 (by decide) ?_
    exact tk_ireturn (pc := 30) d_M_top_30 rfl rfl (Nat.le_of_ble_eq_true rfl) (Nat.le_of_ble_eq_true rfl) ⟨by simp only [tpm]; rw [if_neg hb], rfl⟩
end REF1
end
