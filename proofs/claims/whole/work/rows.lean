section
-- ===== PART A: goes FIRST, ahead of the names: the tables' words, and 'selects' of the private methods out of them =====
/-- a private method of a class that the tables say can be made, by its rows of tables_1 -/
def lw_okq (q : MethodName × Nat) : Prop := (q.1.cls ≠ "java/lang/invoke/MethodHandle" ∧ q.1.cls ≠ "java/lang/invoke/VarHandle") ∧ Cond.instantiable q.1.cls q.2 ∈ tables_1 ∧ Cond.privateMethod q.1 ∈ tables_1 ∧ Cond.instanceMethod q.1 ∈ tables_1
theorem lw_p0 : lw_okq (⟨"java/lang/Throwable", "fillInStackTrace", "(I)Ljava/lang/Throwable;"⟩, 6) := ⟨⟨by decide +kernel, by decide +kernel⟩, List.mem_of_getElem? (i := 251) (by decide +kernel), List.mem_of_getElem? (i := 249) (by decide +kernel), List.mem_of_getElem? (i := 250) (by decide +kernel)⟩
theorem lw_p1 : lw_okq (⟨"ChargePlans$Goods", "append", "(III)I"⟩, 7) := ⟨⟨by decide +kernel, by decide +kernel⟩, List.mem_of_getElem? (i := 25) (by decide +kernel), List.mem_of_getElem? (i := 304) (by decide +kernel), List.mem_of_getElem? (i := 305) (by decide +kernel)⟩
theorem lw_p2 : lw_okq (⟨"ChargePlans$Heats", "append", "(II)I"⟩, 8) := ⟨⟨by decide +kernel, by decide +kernel⟩, List.mem_of_getElem? (i := 66) (by decide +kernel), List.mem_of_getElem? (i := 379) (by decide +kernel), List.mem_of_getElem? (i := 380) (by decide +kernel)⟩
theorem lw_p3 : lw_okq (⟨"ChargePlans$Planning", "search", "(LChargePlans$Goods;LChargePlans$Heats;II)V"⟩, 8) := ⟨⟨by decide +kernel, by decide +kernel⟩, List.mem_of_getElem? (i := 109) (by decide +kernel), List.mem_of_getElem? (i := 404) (by decide +kernel), List.mem_of_getElem? (i := 405) (by decide +kernel)⟩
theorem lw_p4 : lw_okq (⟨"ChargePlans$Sums", "load", "(LChargePlans$Goods;LChargePlans$Heats;I)V"⟩, 4) := ⟨⟨by decide +kernel, by decide +kernel⟩, List.mem_of_getElem? (i := 115) (by decide +kernel), List.mem_of_getElem? (i := 408) (by decide +kernel), List.mem_of_getElem? (i := 409) (by decide +kernel)⟩
theorem lw_p5 : lw_okq (⟨"ChargePlans$Goods", "room", "(I)I"⟩, 7) := ⟨⟨by decide +kernel, by decide +kernel⟩, List.mem_of_getElem? (i := 25) (by decide +kernel), List.mem_of_getElem? (i := 412) (by decide +kernel), List.mem_of_getElem? (i := 413) (by decide +kernel)⟩
theorem lw_p6 : lw_okq (⟨"ChargePlans$Sums", "loadElements", "(LChargePlans$Goods;LChargePlans$Heats;II)V"⟩, 4) := ⟨⟨by decide +kernel, by decide +kernel⟩, List.mem_of_getElem? (i := 115) (by decide +kernel), List.mem_of_getElem? (i := 419) (by decide +kernel), List.mem_of_getElem? (i := 420) (by decide +kernel)⟩
theorem lw_p7 : lw_okq (⟨"ChargePlans$Planning", "tryNumbers", "(I)V"⟩, 8) := ⟨⟨by decide +kernel, by decide +kernel⟩, List.mem_of_getElem? (i := 109) (by decide +kernel), List.mem_of_getElem? (i := 423) (by decide +kernel), List.mem_of_getElem? (i := 424) (by decide +kernel)⟩
theorem lw_p8 : lw_okq (⟨"ChargePlans$Planning", "keepIfAllHold", "()V"⟩, 8) := ⟨⟨by decide +kernel, by decide +kernel⟩, List.mem_of_getElem? (i := 109) (by decide +kernel), List.mem_of_getElem? (i := 427) (by decide +kernel), List.mem_of_getElem? (i := 428) (by decide +kernel)⟩
theorem lw_p9 : lw_okq (⟨"ChargePlans$Sums", "broken", "()I"⟩, 4) := ⟨⟨by decide +kernel, by decide +kernel⟩, List.mem_of_getElem? (i := 115) (by decide +kernel), List.mem_of_getElem? (i := 431) (by decide +kernel), List.mem_of_getElem? (i := 432) (by decide +kernel)⟩
theorem lw_p10 : lw_okq (⟨"ChargePlans$Sums", "cents", "(I)I"⟩, 4) := ⟨⟨by decide +kernel, by decide +kernel⟩, List.mem_of_getElem? (i := 115) (by decide +kernel), List.mem_of_getElem? (i := 435) (by decide +kernel), List.mem_of_getElem? (i := 436) (by decide +kernel)⟩
theorem lw_p11 : lw_okq (⟨"ChargePlans$Sums", "settle", "(I)V"⟩, 4) := ⟨⟨by decide +kernel, by decide +kernel⟩, List.mem_of_getElem? (i := 115) (by decide +kernel), List.mem_of_getElem? (i := 439) (by decide +kernel), List.mem_of_getElem? (i := 440) (by decide +kernel)⟩
theorem lw_p12 : lw_okq (⟨"ChargePlans$Sums", "addBundle", "(I)V"⟩, 4) := ⟨⟨by decide +kernel, by decide +kernel⟩, List.mem_of_getElem? (i := 115) (by decide +kernel), List.mem_of_getElem? (i := 443) (by decide +kernel), List.mem_of_getElem? (i := 444) (by decide +kernel)⟩
theorem lw_p13 : lw_okq (⟨"ChargePlans$Planning", "givenUp", "(I)Z"⟩, 8) := ⟨⟨by decide +kernel, by decide +kernel⟩, List.mem_of_getElem? (i := 109) (by decide +kernel), List.mem_of_getElem? (i := 447) (by decide +kernel), List.mem_of_getElem? (i := 448) (by decide +kernel)⟩
theorem lw_p14 : lw_okq (⟨"ChargePlans$Sums", "tooHeavy", "(I)Z"⟩, 4) := ⟨⟨by decide +kernel, by decide +kernel⟩, List.mem_of_getElem? (i := 115) (by decide +kernel), List.mem_of_getElem? (i := 451) (by decide +kernel), List.mem_of_getElem? (i := 452) (by decide +kernel)⟩
theorem lw_p15 : lw_okq (⟨"ChargePlans$Heats", "keepPlan", "(I[II)V"⟩, 8) := ⟨⟨by decide +kernel, by decide +kernel⟩, List.mem_of_getElem? (i := 66) (by decide +kernel), List.mem_of_getElem? (i := 455) (by decide +kernel), List.mem_of_getElem? (i := 456) (by decide +kernel)⟩
def lw_privs_1 : List (MethodName × Nat) := [(⟨"java/lang/Throwable", "fillInStackTrace", "(I)Ljava/lang/Throwable;"⟩, 6), (⟨"ChargePlans$Goods", "append", "(III)I"⟩, 7), (⟨"ChargePlans$Heats", "append", "(II)I"⟩, 8), (⟨"ChargePlans$Planning", "search", "(LChargePlans$Goods;LChargePlans$Heats;II)V"⟩, 8), (⟨"ChargePlans$Sums", "load", "(LChargePlans$Goods;LChargePlans$Heats;I)V"⟩, 4), (⟨"ChargePlans$Goods", "room", "(I)I"⟩, 7), (⟨"ChargePlans$Sums", "loadElements", "(LChargePlans$Goods;LChargePlans$Heats;II)V"⟩, 4), (⟨"ChargePlans$Planning", "tryNumbers", "(I)V"⟩, 8), (⟨"ChargePlans$Planning", "keepIfAllHold", "()V"⟩, 8), (⟨"ChargePlans$Sums", "broken", "()I"⟩, 4), (⟨"ChargePlans$Sums", "cents", "(I)I"⟩, 4), (⟨"ChargePlans$Sums", "settle", "(I)V"⟩, 4), (⟨"ChargePlans$Sums", "addBundle", "(I)V"⟩, 4), (⟨"ChargePlans$Planning", "givenUp", "(I)Z"⟩, 8), (⟨"ChargePlans$Sums", "tooHeavy", "(I)Z"⟩, 4), (⟨"ChargePlans$Heats", "keepPlan", "(I[II)V"⟩, 8)]
theorem lw_r1 : ∀ q ∈ lw_privs_1, lw_okq q := List.forall_mem_cons.mpr ⟨lw_p0, List.forall_mem_cons.mpr ⟨lw_p1, List.forall_mem_cons.mpr ⟨lw_p2, List.forall_mem_cons.mpr ⟨lw_p3, List.forall_mem_cons.mpr ⟨lw_p4, List.forall_mem_cons.mpr ⟨lw_p5, List.forall_mem_cons.mpr ⟨lw_p6, List.forall_mem_cons.mpr ⟨lw_p7, List.forall_mem_cons.mpr ⟨lw_p8, List.forall_mem_cons.mpr ⟨lw_p9, List.forall_mem_cons.mpr ⟨lw_p10, List.forall_mem_cons.mpr ⟨lw_p11, List.forall_mem_cons.mpr ⟨lw_p12, List.forall_mem_cons.mpr ⟨lw_p13, List.forall_mem_cons.mpr ⟨lw_p14, List.forall_mem_cons.mpr ⟨lw_p15, fun _ h => absurd h List.not_mem_nil⟩⟩⟩⟩⟩⟩⟩⟩⟩⟩⟩⟩⟩⟩⟩⟩
theorem lw_p16 : lw_okq (⟨"ChargePlans$Heats", "hasPlan", "(I)Z"⟩, 8) := ⟨⟨by decide +kernel, by decide +kernel⟩, List.mem_of_getElem? (i := 66) (by decide +kernel), List.mem_of_getElem? (i := 473) (by decide +kernel), List.mem_of_getElem? (i := 474) (by decide +kernel)⟩
theorem lw_p17 : lw_okq (⟨"ChargePlans", "plannedKilos", "(I)J"⟩, 4) := ⟨⟨by decide +kernel, by decide +kernel⟩, List.mem_of_getElem? (i := 17) (by decide +kernel), List.mem_of_getElem? (i := 484) (by decide +kernel), List.mem_of_getElem? (i := 485) (by decide +kernel)⟩
theorem lw_p18 : lw_okq (⟨"ChargePlans", "plannedShares", "(II[I)J"⟩, 4) := ⟨⟨by decide +kernel, by decide +kernel⟩, List.mem_of_getElem? (i := 17) (by decide +kernel), List.mem_of_getElem? (i := 488) (by decide +kernel), List.mem_of_getElem? (i := 489) (by decide +kernel)⟩
theorem lw_p19 : lw_okq (⟨"ChargePlans$Clashing", "find", "(LChargePlans$Goods;LChargePlans$Heats;I)I"⟩, 3) := ⟨⟨by decide +kernel, by decide +kernel⟩, List.mem_of_getElem? (i := 168) (by decide +kernel), List.mem_of_getElem? (i := 517) (by decide +kernel), List.mem_of_getElem? (i := 518) (by decide +kernel)⟩
theorem lw_p20 : lw_okq (⟨"ChargePlans$Clashing", "walk", "(I)V"⟩, 3) := ⟨⟨by decide +kernel, by decide +kernel⟩, List.mem_of_getElem? (i := 168) (by decide +kernel), List.mem_of_getElem? (i := 522) (by decide +kernel), List.mem_of_getElem? (i := 523) (by decide +kernel)⟩
theorem lw_p21 : lw_okq (⟨"ChargePlans$Clashing", "someChargeHolds", "(I)Z"⟩, 3) := ⟨⟨by decide +kernel, by decide +kernel⟩, List.mem_of_getElem? (i := 168) (by decide +kernel), List.mem_of_getElem? (i := 529) (by decide +kernel), List.mem_of_getElem? (i := 530) (by decide +kernel)⟩
theorem lw_p22 : lw_okq (⟨"ChargePlans", "enoughLeft", "(I)Z"⟩, 4) := ⟨⟨by decide +kernel, by decide +kernel⟩, List.mem_of_getElem? (i := 17) (by decide +kernel), List.mem_of_getElem? (i := 540) (by decide +kernel), List.mem_of_getElem? (i := 541) (by decide +kernel)⟩
theorem lw_p23 : lw_okq (⟨"ChargePlansModel", "throwing", "(ZZZ)Z"⟩, 21) := ⟨⟨by decide +kernel, by decide +kernel⟩, List.mem_of_getElem? (i := 551) (by decide +kernel), List.mem_of_getElem? (i := 636) (by decide +kernel), List.mem_of_getElem? (i := 637) (by decide +kernel)⟩
theorem lw_p24 : lw_okq (⟨"ChargePlansModel", "isGood", "(I)Z"⟩, 21) := ⟨⟨by decide +kernel, by decide +kernel⟩, List.mem_of_getElem? (i := 551) (by decide +kernel), List.mem_of_getElem? (i := 644) (by decide +kernel), List.mem_of_getElem? (i := 645) (by decide +kernel)⟩
theorem lw_p25 : lw_okq (⟨"ChargePlansModel", "isHeat", "(I)Z"⟩, 21) := ⟨⟨by decide +kernel, by decide +kernel⟩, List.mem_of_getElem? (i := 551) (by decide +kernel), List.mem_of_getElem? (i := 673) (by decide +kernel), List.mem_of_getElem? (i := 674) (by decide +kernel)⟩
theorem lw_p26 : lw_okq (⟨"ChargePlansModel", "top", "(I)I"⟩, 21) := ⟨⟨by decide +kernel, by decide +kernel⟩, List.mem_of_getElem? (i := 551) (by decide +kernel), List.mem_of_getElem? (i := 686) (by decide +kernel), List.mem_of_getElem? (i := 687) (by decide +kernel)⟩
theorem lw_p27 : lw_okq (⟨"ChargePlansModel", "sum", "(II)I"⟩, 21) := ⟨⟨by decide +kernel, by decide +kernel⟩, List.mem_of_getElem? (i := 551) (by decide +kernel), List.mem_of_getElem? (i := 690) (by decide +kernel), List.mem_of_getElem? (i := 691) (by decide +kernel)⟩
theorem lw_p28 : lw_okq (⟨"ChargePlansModel", "broken", "(I)I"⟩, 21) := ⟨⟨by decide +kernel, by decide +kernel⟩, List.mem_of_getElem? (i := 551) (by decide +kernel), List.mem_of_getElem? (i := 694) (by decide +kernel), List.mem_of_getElem? (i := 695) (by decide +kernel)⟩
theorem lw_p29 : lw_okq (⟨"ChargePlansModel", "keep", "(I)V"⟩, 21) := ⟨⟨by decide +kernel, by decide +kernel⟩, List.mem_of_getElem? (i := 551) (by decide +kernel), List.mem_of_getElem? (i := 698) (by decide +kernel), List.mem_of_getElem? (i := 699) (by decide +kernel)⟩
theorem lw_p30 : lw_okq (⟨"ChargePlansModel", "hasPlan", "(I)Z"⟩, 21) := ⟨⟨by decide +kernel, by decide +kernel⟩, List.mem_of_getElem? (i := 551) (by decide +kernel), List.mem_of_getElem? (i := 710) (by decide +kernel), List.mem_of_getElem? (i := 711) (by decide +kernel)⟩
theorem lw_p31 : lw_okq (⟨"ChargePlansModel", "lookAtAll", "(I)V"⟩, 21) := ⟨⟨by decide +kernel, by decide +kernel⟩, List.mem_of_getElem? (i := 551) (by decide +kernel), List.mem_of_getElem? (i := 729) (by decide +kernel), List.mem_of_getElem? (i := 730) (by decide +kernel)⟩
def lw_privs_2 : List (MethodName × Nat) := [(⟨"ChargePlans$Heats", "hasPlan", "(I)Z"⟩, 8), (⟨"ChargePlans", "plannedKilos", "(I)J"⟩, 4), (⟨"ChargePlans", "plannedShares", "(II[I)J"⟩, 4), (⟨"ChargePlans$Clashing", "find", "(LChargePlans$Goods;LChargePlans$Heats;I)I"⟩, 3), (⟨"ChargePlans$Clashing", "walk", "(I)V"⟩, 3), (⟨"ChargePlans$Clashing", "someChargeHolds", "(I)Z"⟩, 3), (⟨"ChargePlans", "enoughLeft", "(I)Z"⟩, 4), (⟨"ChargePlansModel", "throwing", "(ZZZ)Z"⟩, 21), (⟨"ChargePlansModel", "isGood", "(I)Z"⟩, 21), (⟨"ChargePlansModel", "isHeat", "(I)Z"⟩, 21), (⟨"ChargePlansModel", "top", "(I)I"⟩, 21), (⟨"ChargePlansModel", "sum", "(II)I"⟩, 21), (⟨"ChargePlansModel", "broken", "(I)I"⟩, 21), (⟨"ChargePlansModel", "keep", "(I)V"⟩, 21), (⟨"ChargePlansModel", "hasPlan", "(I)Z"⟩, 21), (⟨"ChargePlansModel", "lookAtAll", "(I)V"⟩, 21)]
theorem lw_r2 : ∀ q ∈ lw_privs_2, lw_okq q := List.forall_mem_cons.mpr ⟨lw_p16, List.forall_mem_cons.mpr ⟨lw_p17, List.forall_mem_cons.mpr ⟨lw_p18, List.forall_mem_cons.mpr ⟨lw_p19, List.forall_mem_cons.mpr ⟨lw_p20, List.forall_mem_cons.mpr ⟨lw_p21, List.forall_mem_cons.mpr ⟨lw_p22, List.forall_mem_cons.mpr ⟨lw_p23, List.forall_mem_cons.mpr ⟨lw_p24, List.forall_mem_cons.mpr ⟨lw_p25, List.forall_mem_cons.mpr ⟨lw_p26, List.forall_mem_cons.mpr ⟨lw_p27, List.forall_mem_cons.mpr ⟨lw_p28, List.forall_mem_cons.mpr ⟨lw_p29, List.forall_mem_cons.mpr ⟨lw_p30, List.forall_mem_cons.mpr ⟨lw_p31, fun _ h => absurd h List.not_mem_nil⟩⟩⟩⟩⟩⟩⟩⟩⟩⟩⟩⟩⟩⟩⟩⟩
theorem lw_p32 : lw_okq (⟨"ChargePlansModel", "isSome", "(I)Z"⟩, 21) := ⟨⟨by decide +kernel, by decide +kernel⟩, List.mem_of_getElem? (i := 551) (by decide +kernel), List.mem_of_getElem? (i := 733) (by decide +kernel), List.mem_of_getElem? (i := 734) (by decide +kernel)⟩
def lw_privs_3 : List (MethodName × Nat) := [(⟨"ChargePlansModel", "isSome", "(I)Z"⟩, 21)]
theorem lw_r3 : ∀ q ∈ lw_privs_3, lw_okq q := List.forall_mem_cons.mpr ⟨lw_p32, fun _ h => absurd h List.not_mem_nil⟩
def lw_privs : List (MethodName × Nat) := lw_privs_1 ++ (lw_privs_2 ++ (lw_privs_3))
def lw_tbl : List Cond := k2_sels lw_privs ++ tables_1
theorem lw_privs_ok : ∀ q ∈ lw_privs, lw_okq q := by
  show ∀ q ∈ lw_privs_1 ++ (lw_privs_2 ++ (lw_privs_3)), lw_okq q
  exact List.forall_mem_append.mpr ⟨lw_r1, List.forall_mem_append.mpr ⟨lw_r2, lw_r3⟩⟩
end
section
def R_CP : String := "ChargePlans"
def F_CP : u_T := fun k => match k with
  | 0 => ("ChargePlans", "goods", "LChargePlans$Goods;", true)
  | 1 => ("ChargePlans", "heats", "LChargePlans$Heats;", true)
  | 2 => ("ChargePlans", "planning", "LChargePlans$Planning;", true)
  | _ => ("ChargePlans", "clashing", "LChargePlans$Clashing;", true)
def t_CP : Nat → FieldType := fun k => match k with
  | 0 => .object "ChargePlans$Goods"
  | 1 => .object "ChargePlans$Heats"
  | 2 => .object "ChargePlans$Planning"
  | _ => .object "ChargePlans$Clashing"
theorem n_CP : ∀ a, a < 4 → ∀ b, b < 4 → a ≠ b → (F_CP a).2.1 ≠ (F_CP b).2.1 := by decide +kernel
theorem t_CP_ok : ∀ k, k < 4 → parseFieldDescriptor (F_CP k).2.2.1 = some (t_CP k) := by decide +kernel
def R_G : String := "ChargePlans$Goods"
def F_G : u_T := fun k => match k with
  | 0 => ("ChargePlans$Goods", "count", "I", false)
  | 1 => ("ChargePlans$Goods", "kilos", "[I", true)
  | 2 => ("ChargePlans$Goods", "cents", "[I", true)
  | 3 => ("ChargePlans$Goods", "stock", "[I", true)
  | 4 => ("ChargePlans$Goods", "limit", "[I", true)
  | 5 => ("ChargePlans$Goods", "lowShare", "[I", true)
  | _ => ("ChargePlans$Goods", "highShare", "[I", true)
def t_G : Nat → FieldType := fun k => match k with
  | 0 => .int
  | 1 => .array .int
  | 2 => .array .int
  | 3 => .array .int
  | 4 => .array .int
  | 5 => .array .int
  | _ => .array .int
theorem n_G : ∀ a, a < 7 → ∀ b, b < 7 → a ≠ b → (F_G a).2.1 ≠ (F_G b).2.1 := by decide +kernel
theorem t_G_ok : ∀ k, k < 7 → parseFieldDescriptor (F_G k).2.2.1 = some (t_G k) := by decide +kernel
def R_H : String := "ChargePlans$Heats"
def F_H : u_T := fun k => match k with
  | 0 => ("ChargePlans$Heats", "count", "I", false)
  | 1 => ("ChargePlans$Heats", "low", "[I", true)
  | 2 => ("ChargePlans$Heats", "high", "[I", true)
  | 3 => ("ChargePlans$Heats", "lowShare", "[I", true)
  | 4 => ("ChargePlans$Heats", "highShare", "[I", true)
  | 5 => ("ChargePlans$Heats", "mostBundles", "[I", true)
  | 6 => ("ChargePlans$Heats", "planCents", "[I", true)
  | _ => ("ChargePlans$Heats", "bundles", "[I", true)
def t_H : Nat → FieldType := fun k => match k with
  | 0 => .int
  | 1 => .array .int
  | 2 => .array .int
  | 3 => .array .int
  | 4 => .array .int
  | 5 => .array .int
  | 6 => .array .int
  | _ => .array .int
theorem n_H : ∀ a, a < 8 → ∀ b, b < 8 → a ≠ b → (F_H a).2.1 ≠ (F_H b).2.1 := by decide +kernel
theorem t_H_ok : ∀ k, k < 8 → parseFieldDescriptor (F_H k).2.2.1 = some (t_H k) := by decide +kernel
def R_P : String := "ChargePlans$Planning"
def F_P : u_T := fun k => match k with
  | 0 => ("ChargePlans$Planning", "sums", "LChargePlans$Sums;", true)
  | 1 => ("ChargePlans$Planning", "charge", "[I", true)
  | 2 => ("ChargePlans$Planning", "best", "[I", true)
  | 3 => ("ChargePlans$Planning", "bestCents", "I", false)
  | 4 => ("ChargePlans$Planning", "allowed", "I", false)
  | 5 => ("ChargePlans$Planning", "steps", "I", false)
  | 6 => ("ChargePlans$Planning", "spent", "Z", false)
  | _ => ("ChargePlans$Planning", "done", "Z", false)
def t_P : Nat → FieldType := fun k => match k with
  | 0 => .object "ChargePlans$Sums"
  | 1 => .array .int
  | 2 => .array .int
  | 3 => .int
  | 4 => .int
  | 5 => .int
  | 6 => .boolean
  | _ => .boolean
theorem n_P : ∀ a, a < 8 → ∀ b, b < 8 → a ≠ b → (F_P a).2.1 ≠ (F_P b).2.1 := by decide +kernel
theorem t_P_ok : ∀ k, k < 8 → parseFieldDescriptor (F_P k).2.2.1 = some (t_P k) := by decide +kernel
def R_S : String := "ChargePlans$Sums"
def F_S : u_T := fun k => match k with
  | 0 => ("ChargePlans$Sums", "goodCount", "I", false)
  | 1 => ("ChargePlans$Sums", "room", "[I", true)
  | 2 => ("ChargePlans$Sums", "perBundle", "[I", true)
  | _ => ("ChargePlans$Sums", "rows", "[I", true)
def t_S : Nat → FieldType := fun k => match k with
  | 0 => .int
  | 1 => .array .int
  | 2 => .array .int
  | _ => .array .int
theorem n_S : ∀ a, a < 4 → ∀ b, b < 4 → a ≠ b → (F_S a).2.1 ≠ (F_S b).2.1 := by decide +kernel
theorem t_S_ok : ∀ k, k < 4 → parseFieldDescriptor (F_S k).2.2.1 = some (t_S k) := by decide +kernel
def R_C : String := "ChargePlans$Clashing"
def F_C : u_T := fun k => match k with
  | 0 => ("ChargePlans$Clashing", "sums", "LChargePlans$Sums;", true)
  | 1 => ("ChargePlans$Clashing", "seen", "[J", true)
  | _ => ("ChargePlans$Clashing", "allHold", "Z", false)
def t_C : Nat → FieldType := fun k => match k with
  | 0 => .object "ChargePlans$Sums"
  | 1 => .array .long
  | _ => .boolean
theorem n_C : ∀ a, a < 3 → ∀ b, b < 3 → a ≠ b → (F_C a).2.1 ≠ (F_C b).2.1 := by decide +kernel
theorem t_C_ok : ∀ k, k < 3 → parseFieldDescriptor (F_C k).2.2.1 = some (t_C k) := by decide +kernel
def R_M : String := "ChargePlansModel"
def F_M : u_T := fun k => match k with
  | 0 => ("ChargePlansModel", "thrown", "I", false)
  | 1 => ("ChargePlansModel", "goods", "I", false)
  | 2 => ("ChargePlansModel", "kilos", "[I", true)
  | 3 => ("ChargePlansModel", "cents", "[I", true)
  | 4 => ("ChargePlansModel", "stock", "[I", true)
  | 5 => ("ChargePlansModel", "limit", "[I", true)
  | 6 => ("ChargePlansModel", "low", "[I", true)
  | 7 => ("ChargePlansModel", "high", "[I", true)
  | 8 => ("ChargePlansModel", "heats", "I", false)
  | 9 => ("ChargePlansModel", "least", "[I", true)
  | 10 => ("ChargePlansModel", "greatest", "[I", true)
  | 11 => ("ChargePlansModel", "most", "[I", true)
  | 12 => ("ChargePlansModel", "heatLow", "[I", true)
  | 13 => ("ChargePlansModel", "heatHigh", "[I", true)
  | 14 => ("ChargePlansModel", "planCents", "[I", true)
  | 15 => ("ChargePlansModel", "plan", "[I", true)
  | 16 => ("ChargePlansModel", "asked", "Z", false)
  | 17 => ("ChargePlansModel", "spent", "Z", false)
  | 18 => ("ChargePlansModel", "steps", "I", false)
  | 19 => ("ChargePlansModel", "now", "[I", true)
  | _ => ("ChargePlansModel", "breaks", "[Z", true)
def t_M : Nat → FieldType := fun k => match k with
  | 0 => .int
  | 1 => .int
  | 2 => .array .int
  | 3 => .array .int
  | 4 => .array .int
  | 5 => .array .int
  | 6 => .array .int
  | 7 => .array .int
  | 8 => .int
  | 9 => .array .int
  | 10 => .array .int
  | 11 => .array .int
  | 12 => .array .int
  | 13 => .array .int
  | 14 => .array .int
  | 15 => .array .int
  | 16 => .boolean
  | 17 => .boolean
  | 18 => .int
  | 19 => .array .int
  | _ => .array .boolean
theorem n_M : ∀ a, a < 21 → ∀ b, b < 21 → a ≠ b → (F_M a).2.1 ≠ (F_M b).2.1 := by decide +kernel
theorem t_M_ok : ∀ k, k < 21 → parseFieldDescriptor (F_M k).2.2.1 = some (t_M k) := by decide +kernel
abbrev vwCl : List vw_C := [(R_CP, F_CP, 4), (R_G, F_G, 7), (R_H, F_H, 8), (R_P, F_P, 8), (R_S, F_S, 4), (R_C, F_C, 3), (R_M, F_M, 21)]
def tk_ncl : List Cond := [.not (.castable "java/lang/IndexOutOfBoundsException" "java/lang/IllegalStateException"), .not (.castable "java/lang/IndexOutOfBoundsException" "java/lang/IllegalArgumentException"), .not (.castable "java/lang/IndexOutOfBoundsException" "java/lang/UnsupportedOperationException"), .not (.castable "java/lang/IllegalStateException" "java/lang/IndexOutOfBoundsException"), .not (.castable "java/lang/IllegalStateException" "java/lang/IllegalArgumentException"), .not (.castable "java/lang/IllegalStateException" "java/lang/UnsupportedOperationException"), .not (.castable "java/lang/IllegalArgumentException" "java/lang/IndexOutOfBoundsException"), .not (.castable "java/lang/IllegalArgumentException" "java/lang/IllegalStateException"), .not (.castable "java/lang/IllegalArgumentException" "java/lang/UnsupportedOperationException"), .not (.castable "java/lang/UnsupportedOperationException" "java/lang/IndexOutOfBoundsException"), .not (.castable "java/lang/UnsupportedOperationException" "java/lang/IllegalStateException"), .not (.castable "java/lang/UnsupportedOperationException" "java/lang/IllegalArgumentException")]
end
section
/-! ===== T: walks over an abstract world. The world is a list of cells; a reference is a place in that list; 'ad' says where the places lie in the heap. ===== -/
abbrev tk_E : Type := (Nat × vp_A) ⊕ (Nat × List Value)
abbrev tk_W : Type := List tk_E
/-- how a method ends: it returns, or throws an object of the class of that name -/
abbrev tk_R : Type := Option Value ⊕ String
def tk_v (ad : Nat → Nat) (v : Value) : Value := match v with
  | .ref k => .ref (ad k)
  | x => x
def tk_e (dA : Nat → ClassId) (ad : Nat → Nat) (x : tk_E) : va_E := match x with
  | .inl a => .inl (dA a.1, a.2)
  | .inr o => .inr (o.1, o.2.map (tk_v ad))
def tk_m (dA : Nat → ClassId) (ad : Nat → Nat) (w : tk_W) : va_W := w.mapIdx (fun k x => (ad k, tk_e dA ad x))
theorem tk_m_get {dA : Nat → ClassId} {ad : Nat → Nat} {w : tk_W} {k : Nat} {x : tk_E} (h : w[k]? = some x) : (tk_m dA ad w)[k]? = some (ad k, tk_e dA ad x) := by
  simp [tk_m, h]
theorem tk_m_len {dA : Nat → ClassId} {ad : Nat → Nat} {w : tk_W} : (tk_m dA ad w).length = w.length := by simp [tk_m]
theorem tk_m_of {dA : Nat → ClassId} {ad : Nat → Nat} {w : tk_W} {k : Nat} {q : Nat × va_E} (h : (tk_m dA ad w)[k]? = some q) : ∃ x, w[k]? = some x ∧ q = (ad k, tk_e dA ad x) := by
  cases hx : w[k]? with
  | none => simp [tk_m, hx] at h
  | some x =>
    rw [tk_m_get hx] at h
    exact ⟨x, rfl, (Option.some.inj h).symm⟩
theorem tk_m_set {dA : Nat → ClassId} {ad : Nat → Nat} {w : tk_W} (k : Nat) (x : tk_E) : (tk_m dA ad w).set k (ad k, tk_e dA ad x) = tk_m dA ad (w.set k x) := by
  apply List.ext_getElem?
  intro i
  simp only [tk_m, List.getElem?_set, List.getElem?_mapIdx, List.length_mapIdx]
  by_cases h : k = i
  · subst h
    by_cases hl : k < w.length
    · simp [hl]
    · simp [hl]
  · simp [h]
/-- a value that speaks of the first n places alone -/
def tk_ok (n : Nat) (v : Value) : Bool := match v with
  | .ref k => decide (k < n)
  | _ => true
def tk_okE (n : Nat) (x : tk_E) : Bool := match x with
  | .inl _ => true
  | .inr o => o.2.all (tk_ok n)
def tk_wf (w : tk_W) : Prop := ∀ (k : Nat) (x : tk_E), w[k]? = some x → tk_okE w.length x = true
theorem tk_wf_set {w : tk_W} {k : Nat} {x : tk_E} (h : tk_wf w) (hx : tk_okE w.length x = true) : tk_wf (w.set k x) := by
  intro j y hy
  rw [List.length_set]
  rw [List.getElem?_set] at hy
  by_cases hj : k = j
  · subst hj
    rw [if_pos rfl] at hy
    by_cases hl : k < w.length
    · rw [if_pos hl] at hy
      cases hy
      exact hx
    · rw [if_neg hl] at hy
      cases hy
  · rw [if_neg hj] at hy
    exact h j y hy
def tk_up (ad : Nat → Nat) (n q : Nat) : Nat → Nat := fun k => if k = n then q else ad k
theorem tk_v_up {ad : Nat → Nat} {n q : Nat} {v : Value} (h : tk_ok n v = true) : tk_v (tk_up ad n q) v = tk_v ad v := by
  cases v with
  | ref k =>
    have hk : k < n := of_decide_eq_true h
    show Value.ref (if k = n then q else ad k) = .ref (ad k)
    rw [if_neg (Nat.ne_of_lt hk)]
  | _ => rfl
theorem tk_e_up {dA : Nat → ClassId} {ad : Nat → Nat} {n q : Nat} {x : tk_E} (h : tk_okE n x = true) : tk_e dA (tk_up ad n q) x = tk_e dA ad x := by
  rcases x with a | ⟨c, fs⟩
  · rfl
  · show (Sum.inr (c, fs.map (tk_v (tk_up ad n q))) : va_E) = .inr (c, fs.map (tk_v ad))
    have hm : fs.map (tk_v (tk_up ad n q)) = fs.map (tk_v ad) := List.map_congr_left (fun v hv => tk_v_up (List.all_eq_true.mp h v hv))
    rw [hm]
theorem tk_ok_le {n k : Nat} (hk : n ≤ k) {v : Value} (h : tk_ok n v = true) : tk_ok k v = true := by
  cases v with
  | ref j =>
    have hj : j < n := of_decide_eq_true h
    exact decide_eq_true (Nat.lt_of_lt_of_le hj hk)
  | _ => rfl
theorem tk_okE_le {n k : Nat} (hk : n ≤ k) {x : tk_E} (h : tk_okE n x = true) : tk_okE k x = true := by
  rcases x with a | ⟨c, fs⟩
  · rfl
  · exact List.all_eq_true.mpr fun v hv => tk_ok_le hk (List.all_eq_true.mp h v hv)
theorem tk_m_push {dA : Nat → ClassId} {ad : Nat → Nat} {w : tk_W} {x : tk_E} {q : Nat} (hw : tk_wf w) (hx : tk_okE w.length x = true) : tk_m dA (tk_up ad w.length q) (w ++ [x]) = tk_m dA ad w ++ [(q, tk_e dA ad x)] := by
  apply List.ext_getElem?
  intro i
  rcases Nat.lt_trichotomy i w.length with hi | hi | hi
  · have h1 : (w ++ [x])[i]? = w[i]? := List.getElem?_append_left hi
    have h2 : (tk_m dA ad w ++ [(q, tk_e dA ad x)])[i]? = (tk_m dA ad w)[i]? := List.getElem?_append_left (by rw [tk_m_len]; exact hi)
    rw [h2]
    cases hy : w[i]? with
    | none => exact absurd (List.getElem?_eq_none_iff.mp hy) (by omega)
    | some y =>
      rw [tk_m_get hy, tk_m_get (h1.trans hy), tk_e_up (hw i y hy)]
      show some ((if i = w.length then q else ad i), _) = _
      rw [if_neg (Nat.ne_of_lt hi)]
  · subst hi
    have h1 : (w ++ [x])[w.length]? = some x := by simp
    have h2 : (tk_m dA ad w ++ [(q, tk_e dA ad x)])[w.length]? = some (q, tk_e dA ad x) := by
      rw [List.getElem?_append_right (by rw [tk_m_len]; exact Nat.le_refl _), tk_m_len, Nat.sub_self]
      rfl
    rw [tk_m_get h1, h2, tk_e_up hx]
    show some ((if w.length = w.length then q else ad w.length), _) = _
    rw [if_pos rfl]
  · rw [List.getElem?_eq_none (by rw [tk_m_len]; simp; omega), List.getElem?_eq_none (by simp [tk_m_len]; omega)]
theorem tk_wf_push {w : tk_W} {x : tk_E} (hw : tk_wf w) (hx : tk_okE w.length x = true) : tk_wf (w ++ [x]) := by
  intro i y hy
  have hl : (w ++ [x]).length = w.length + 1 := by simp
  rw [hl]
  rcases Nat.lt_or_ge i w.length with hi | hi
  · rw [List.getElem?_append_left hi] at hy
    exact tk_okE_le (Nat.le_succ _) (hw i y hy)
  · rw [List.getElem?_append_right hi] at hy
    have hz : i - w.length < 1 := (List.getElem?_eq_some_iff.mp hy).1
    rw [show i - w.length = 0 by omega] at hy
    cases hy
    exact tk_okE_le (Nat.le_succ _) hx
/-! locals, by their numbers -/
def tk_L (ad : Nat → Nat) (ls : Array Slot) (nL : Nat) (lv : List (Option Value)) : Prop := ls.size = nL ∧ lv_wf ls ∧ ∀ (i : Nat) (v : Value), lv[i]? = some (some v) → ls[i]? = some (.val (tk_v ad v))
def tk_pr (ad : Nat → Nat) (lv : List (Option Value)) : List (Nat × Value) := (List.range lv.length).filterMap (fun i => match lv[i]? with
  | some (some v) => some (i, tk_v ad v)
  | _ => none)
theorem tk_pr_in {ad : Nat → Nat} {lv : List (Option Value)} {i : Nat} {v : Value} (h : lv[i]? = some (some v)) : (i, tk_v ad v) ∈ tk_pr ad lv :=
  List.mem_filterMap.mpr ⟨i, List.mem_range.mpr (List.getElem?_eq_some_iff.mp h).1, by rw [h]⟩
theorem tk_pr_of {ad : Nat → Nat} {lv : List (Option Value)} {q : Nat × Value} (h : q ∈ tk_pr ad lv) : ∃ v, lv[q.1]? = some (some v) ∧ q.2 = tk_v ad v := by
  obtain ⟨i, -, hi⟩ := List.mem_filterMap.mp h
  cases ho : lv[i]? with
  | none => rw [ho] at hi; cases hi
  | some o =>
    cases o with
    | none => rw [ho] at hi; cases hi
    | some v =>
      rw [ho] at hi
      cases hi
      exact ⟨v, ho, rfl⟩
theorem tk_L.has {ad : Nat → Nat} {ls : Array Slot} {nL : Nat} {lv : List (Option Value)} (h : tk_L ad ls nL lv) : lv_has ls nL (tk_pr ad lv) := by
  refine ⟨h.1, h.2.1, fun q hq => ?_⟩
  obtain ⟨v, h1, h2⟩ := tk_pr_of hq
  rw [h2]
  exact h.2.2 q.1 v h1
theorem tk_cat (ad : Nat → Nat) (v : Value) : (tk_v ad v).category = v.category := by cases v <;> rfl
/-- the local ahead of i isn't the first half of a long -/
def tk_p1 (o : Option Value) : Bool := match o with
  | some v => v.category == 1
  | none => true
def tk_pc (lv : List (Option Value)) (i : Nat) : Bool := match i with
  | 0 => true
  | j + 1 => match lv[j]? with
    | some o => tk_p1 o
    | none => true
theorem tk_pc_at {lv : List (Option Value)} {i j : Nat} {u : Value} (h : tk_pc lv i = true) (hj : j + 1 = i) (hu : lv[j]? = some (some u)) : u.category = 1 := by
  subst hj
  simp only [tk_pc, hu, tk_p1, beq_iff_eq] at h
  exact h
theorem tk_L.st1 {ad : Nat → Nat} {ls : Array Slot} {nL i : Nat} {lv : List (Option Value)} {v : Value} (hp : tk_pc lv i = true)
    (h : lv_has ls nL ((i, tk_v ad v) :: (tk_pr ad lv).filter (fun q => !(q.1 == i) && !(q.1 + 1 == i && q.2.category == 2)))) : tk_L ad ls nL (lv.set i (some v)) := by
  refine ⟨h.1, h.2.1, fun j u hj => ?_⟩
  rw [List.getElem?_set] at hj
  by_cases e : i = j
  · subst e
    rw [if_pos rfl] at hj
    by_cases hl : i < lv.length
    · rw [if_pos hl] at hj
      cases hj
      exact h.2.2 (i, tk_v ad v) List.mem_cons_self
    · rw [if_neg hl] at hj
      cases hj
  · rw [if_neg e] at hj
    refine h.2.2 (j, tk_v ad u) (List.mem_cons_of_mem _ (List.mem_filter.mpr ⟨tk_pr_in hj, ?_⟩))
    have h1 : (j == i) = false := by simpa using Ne.symm e
    by_cases h2 : j + 1 = i
    · have hc := tk_pc_at hp h2 hj
      simp [h1, tk_cat, hc]
    · simp [h1, h2]
theorem tk_L.st2 {ad : Nat → Nat} {ls : Array Slot} {nL i : Nat} {lv : List (Option Value)} {v : Value} (hp : tk_pc lv i = true)
    (h : lv_has ls nL ((i, tk_v ad v) :: (tk_pr ad lv).filter (fun q => !(q.1 == i) && (!(q.1 == i + 1) && !(q.1 + 1 == i && q.2.category == 2))))) : tk_L ad ls nL ((lv.set i (some v)).set (i + 1) none) := by
  refine ⟨h.1, h.2.1, fun j u hj => ?_⟩
  rw [List.getElem?_set] at hj
  by_cases e2 : i + 1 = j
  · subst e2
    rw [if_pos rfl] at hj
    split at hj <;> cases hj
  · rw [if_neg e2, List.getElem?_set] at hj
    by_cases e : i = j
    · subst e
      rw [if_pos rfl] at hj
      by_cases hl : i < lv.length
      · rw [if_pos hl] at hj
        cases hj
        exact h.2.2 (i, tk_v ad v) List.mem_cons_self
      · rw [if_neg hl] at hj
        cases hj
    · rw [if_neg e] at hj
      refine h.2.2 (j, tk_v ad u) (List.mem_cons_of_mem _ (List.mem_filter.mpr ⟨tk_pr_in hj, ?_⟩))
      have h1 : (j == i) = false := by simpa using Ne.symm e
      have h3 : (j == i + 1) = false := by simpa using Ne.symm e2
      by_cases h2 : j + 1 = i
      · have hc := tk_pc_at hp h2 hj
        simp [h1, h3, tk_cat, hc]
      · simp [h1, h2, h3]
/-- the locals at a method's entry -/
def tk_ent : List Value → List (Option Value)
  | [] => []
  | v :: vs => if v.category = 2 then some v :: none :: tk_ent vs else some v :: tk_ent vs
theorem tk_ent_at (ad : Nat → Nat) : ∀ (as : List Value) (i : Nat) (v : Value), (tk_ent as)[i]? = some (some v) → (lg_sl (as.map (tk_v ad)))[i]? = some (.val (tk_v ad v))
  | [], i, v, h => by simp [tk_ent] at h
  | a :: as, i, v, h => by
    have hs : lg_sl ((a :: as).map (tk_v ad)) = (if a.category = 2 then [Slot.val (tk_v ad a), Slot.second] else [Slot.val (tk_v ad a)]) ++ lg_sl (as.map (tk_v ad)) := by
      simp only [lg_sl, List.map_cons, List.flatMap_cons, tk_cat]
    rw [hs]
    by_cases hc : a.category = 2
    · simp only [tk_ent, hc, if_true] at h ⊢
      match i, h with
      | 0, h => simp at h; subst h; simp
      | 1, h => simp at h
      | i + 2, h => simpa using tk_ent_at ad as i v (by simpa using h)
    · simp only [tk_ent, hc, if_false] at h ⊢
      match i, h with
      | 0, h => simp at h; subst h; simp
      | i + 1, h => simpa using tk_ent_at ad as i v (by simpa using h)
end
section
/-! words that hold on while the tables warm -/
def tk_gx (w : Cond) : Bool := match w with
  | .arrayClass _ => true
  | .fieldLinkNest .. => true
  | .methodLinkNest .. => true
  | .stringRef .. => true
  | .not (.castable ..) => true
  | _ => false
def tk_gd (w : Cond) : Bool := (w.onTables && w.keeps) || (w.onTables && w.faceAtom) || tk_gx w
theorem tk_warm {w : Cond} {s U : State} {a a' : Array Value} (hg : tk_gd w = true) (hW : s.WarmedH U.vm) (h : w.before a s = true) : w.before a' U = true := by
  simp only [tk_gd, Bool.or_eq_true] at hg
  rcases hg with (h1 | h1) | h1
  · exact word_at hW (Or.inl h1) h
  · rw [Bool.and_eq_true] at h1
    exact va_tabs h1.1 (rfl : (s.setVm U.vm).vm = U.vm) (Cond.faceAtom_setVm hW.alike w h1.2 h)
  · match w, h1, h with
    | .arrayClass ty, _, h => exact word_at hW (Or.inr ⟨ty, rfl⟩) h
    | .fieldLinkNest .., _, h => exact va_tabs rfl (rfl : (s.setVm U.vm).vm = U.vm) (Cond.fieldLinkNest_warmed hW h)
    | .methodLinkNest .., _, h => exact va_tabs rfl (rfl : (s.setVm U.vm).vm = U.vm) (Cond.methodLinkNest_warmed hW h)
    | .stringRef .., _, h =>
      have h2 := Cond.stringRef_warmed hW h
      simp only [Cond.before, Cond.holds, Cond.value, State.names, State.poolOf?, State.resolvedAt?, State.vm_setVm] at h2 ⊢
      exact h2
    | .not (.castable x y), _, h =>
      have h2 : (Cond.not (.castable x y)).before a (s.setVm U.vm) = true := Cond.castAtom_setVm hW.alike _ rfl h
      simp only [Cond.before, Cond.holds, Cond.value, State.vm_setVm] at h2 ⊢
      exact h2
abbrev tk_cl : List vw_C := vwCl
def tk_tbl : List Cond := (lw_tbl ++ tk_ncl).filter tk_gd
theorem tk_in {w : Cond} (h : w ∈ lw_tbl) (hg : tk_gd w = true) : w ∈ tk_tbl := List.mem_filter.mpr ⟨List.mem_append_left _ h, hg⟩
theorem tk_at {w : Cond} (i : Nat) (h : tables_1[i]? = some w) (hg : tk_gd w = true) : w ∈ tk_tbl := tk_in (List.mem_append_right _ (List.mem_of_getElem? h)) hg
theorem tk_ac {w : Cond} (i : Nat) (h : tables_1[i]? = some w) (hg : tk_gd w = true) : w ∈ tk_tbl := tk_at i h hg
theorem tk_sl {w : Cond} (h : w ∈ k2_sels lw_privs) (hg : tk_gd w = true) : w ∈ tk_tbl := tk_in (List.mem_append_left _ h) hg
theorem tk_nc {w : Cond} (h : w ∈ tk_ncl) (hg : tk_gd w = true) : w ∈ tk_tbl := List.mem_filter.mpr ⟨List.mem_append_right _ h, hg⟩
theorem tk_all {ws : List Cond} (h : ∀ w ∈ ws, w ∈ tables_1) (hg : ws.all tk_gd = true) : ∀ w ∈ ws, w ∈ tk_tbl := fun w hw => tk_in (List.mem_append_right _ (h w hw)) (List.all_eq_true.mp hg w hw)
/-- the tables' words at a state, whatever the arguments -/
def tk_ts (U : State) : Prop := ∀ x ∈ tk_tbl, ∀ a : Array Value, x.before a U = true
theorem tk_ts.warm {s U : State} (h : tk_ts s) (hW : s.WarmedH U.vm) : tk_ts U := fun x hx a => tk_warm (List.mem_filter.mp hx).2 hW (h x hx #[])
theorem tk_ts.of {s : State} {args : Array Value} (h : ∀ w ∈ lw_tbl, w.before args s = true) (h2 : ∀ w ∈ tk_ncl, w.before args s = true) : tk_ts s := fun x hx a => tk_warm (List.mem_filter.mp hx).2 (State.WarmedH.refl s) ((List.mem_append.mp (List.mem_filter.mp hx).1).elim (h x) (h2 x))
theorem tk_ts.at {s : State} (h : tk_ts s) (a : Array Value) : ∀ w ∈ tk_tbl, w.before a s = true := fun w hw => h w hw a
/-! the kinds of arrays -/
def tk_ty : List FieldType := [.int, .long, .boolean, .byte]
def tk_tys (dA : Nat → ClassId) : List (ClassId × FieldType) := [(dA 0, .int), (dA 1, .long), (dA 2, .boolean), (dA 3, .byte)]
/-- where a static field lies: in its class's statics cell, which is outside A -/
def tk_Ls (C n f9 : String) (A : Nat → Prop) (U : State) (H : Heap) : Prop := ∃ (c : ClassId) (k : Class) (i : Nat) (f : Field) (a : Nat) (cell : Cell), U.vm.findClass C = some c ∧ U.fieldFound? C n f9 = some (c, k, i, f) ∧ f.isStatic = true ∧ k.statics = some a ∧ H[a]? = some cell ∧ cell.vm.isStatics = true ∧ cell.cls = c ∧ f.slot < cell.slots.size ∧ k.staticTypes[f.slot]? = some f.type ∧ ¬ A a
theorem tk_Ls.go {C n f9 : String} {A B : Nat → Prop} {u U : State} {H H1 : Heap} (h : tk_Ls C n f9 A u H) (hvm : u.vm.Alike U.vm) (hq : ∀ a : Nat, a < H.size → ¬ A a → H1[a]? = H[a]?) (hAB : ∀ q, B q → A q) : tk_Ls C n f9 B U H1 := by
  obtain ⟨c, k, i, f, a, cell, h1, h2, h3, h4, h5, h6, h7, h8, h9, h10⟩ := h
  obtain ⟨k', hi', he⟩ := State.fieldFound?_setVm hvm h2
  exact ⟨c, k', i, f, a, cell, by rw [hvm.findClass]; exact h1, hi', h3, by rw [he]; exact h4, by rw [hq a (Array.getElem?_eq_some_iff.mp h5).1 h10]; exact h5, h6, h7, h8, by rw [he]; exact h9, fun z => h10 (hAB _ z)⟩
/-- what a throw needs of the heap: two statics of Throwable, outside A -/
def tk_Th (A : Nat → Prop) (s : State) : Prop := ∃ u v : Value, u.isRef = true ∧ v.isRef = true ∧ va_Z Bundle.tN "UNASSIGNED_STACK" Bundle.steD u A s s.heap ∧ va_Z Bundle.tN "SUPPRESSED_SENTINEL" Bundle.listD v A s s.heap ∧ tk_Ls Bundle.tN "UNASSIGNED_STACK" Bundle.steD A s s.heap ∧ tk_Ls Bundle.tN "SUPPRESSED_SENTINEL" Bundle.listD A s s.heap
def tk_A (ad : Nat → Nat) (w : tk_W) (sz : Nat) : Nat → Prop := fun q => (∃ k : Nat, k < w.length ∧ q = ad k) ∨ sz ≤ q
def tk_rm (d kc ks : Nat) : Room := { frames := d + 8, cells := kc, slots := ks, locals := d * 60 + 240 }
def tk_Ag (n0 n : Nat) (ad0 ad : Nat → Nat) : Prop := ∀ k : Nat, (k < n0 ∨ n ≤ k) → ad k = ad0 k
theorem tk_Ag.rf {n0 n : Nat} {ad : Nat → Nat} : tk_Ag n0 n ad ad := fun _ _ => rfl
/-- the end of a method, as its caller sees it -/
def tk_Out (ad : Nat → Nat) (st t : State) (o : Outcome) (r : tk_R) : Prop := match r with
  | .inl v => o = .returned (v.map (tk_v ad))
  | .inr C => ∃ (a : Addr) (ce : Cell), o = .threw a ∧ t.heap[a]? = some ce ∧ ce.vm = .none ∧ st.vm.findClass C = some ce.cls
def tk_Y (D : va_G) (dA : Nat → ClassId) (A : Nat → Prop) (ad0 : Nat → Nat) (n0 : Nat) (s : State) (kc ks : Nat) (Q : tk_R → tk_W → Prop) (o : Outcome) (t : State) : Prop :=
  (s.WarmedH t.vm ∧ ∃ L : List Loc, s.sameButNew ({ t with vm := s.vm } : State) L kc ks ∧ ∀ q ∈ L, A q.base) ∧ va_F A s t ∧
  ∃ (r : tk_R) (ad : Nat → Nat) (w : tk_W), Q r w ∧ tk_Out ad s t o r ∧ tk_Ag n0 w.length ad0 ad ∧ n0 ≤ w.length ∧ va_P D tk_cl (tk_m dA ad w) t.heap ∧ va_D A (tk_m dA ad w) ∧ tk_wf w
def tk_Z (below : List Frame) (D : va_G) (dA : Nat → ClassId) (A : Nat → Prop) (ad0 : Nat → Nat) (n0 : Nat) (s : State) (kc ks : Nat) (Q : tk_R → tk_W → Prop) : State → Prop := fun t =>
  ∃ o, t.status = .running ∧ Ended t below o ∧ tk_Y D dA A ad0 n0 s kc ks Q o t
/-- what stands while a method runs: the machine, the code, the tables, what is given of the heap -/
abbrev tk_In (p : Program) (l : Launch) (s : State) (m : MethodId) (meth : Method) (c : Code) (y : MethodName) (cc : ByteArray) (nL : Nat) (rt : Option FieldType) (hh : List (Nat × Nat × Nat × Nat)) (D : va_G) (dA : Nat → ClassId) (A : Nat → Prop) (ad0 : Nat → Nat) (ro : Nat → Option (Nat × (Nat → Int32))) : Prop :=
  p.tables.exec = Jvm.exec ∧ c.code = cc ∧ c.maxLocals = nL ∧ meth.sig.returnType = rt ∧ meth.locks = false ∧ meth.name = y.name ∧ s.vm.findClass y.cls = some m.cls ∧
  c.exceptionTable.toList.map (fun h => (h.startPc, h.endPc, h.handlerPc, h.catchType)) = hh ∧ tk_ts s ∧ va_K D tk_cl (tk_tys dA) s ∧ (∀ q : Nat, s.heap.size ≤ q → A q) ∧ tk_Th A s ∧
  (∀ (q : Nat) (cell : Cell), A q → s.heap[q]? = some cell → cell.vm.isStatics = false) ∧ l.stackTraces = false ∧
  (∀ (k L : Nat) (xs : Nat → Int32), ro k = some (L, xs) → va_X (ad0 k) L xs s s.heap ∧ ad0 k < s.heap.size ∧ ¬ A (ad0 k))
/-- THE WALK: at pc, with these locals, this stack and this world, the method comes to an end with Q -/
def tk_T (y : MethodName) (cc : ByteArray) (nL : Nat) (rt : Option FieldType) (hh : List (Nat × Nat × Nat × Nat)) (d kc ks : Nat) (ro : Nat → Option (Nat × (Nat → Int32))) (cells slots : Nat) (Q : tk_R → tk_W → Prop) (pc : Nat) (lv : List (Option Value)) (st : List Value) (w : tk_W) : Prop :=
  ∀ (p : Program) (l : Launch) (e : Env) (s : State) (m : MethodId) (args : Array Value) (below : List Frame) (meth : Method) (c : Code) (D : va_G) (dA : Nat → ClassId) (A : Nat → Prop) (ad0 : Nat → Nat) (n0 : Nat), tk_In p l s m meth c y cc nL rt hh D dA A ad0 ro →
  ∀ (ad : Nat → Nat) (H : Heap) (locs : List Loc) (ls : Array Slot), tk_Ag n0 w.length ad0 ad → n0 ≤ w.length → va_P D tk_cl (tk_m dA ad w) H → va_D A (tk_m dA ad w) → va_S A s.heap H locs → tk_wf w → tk_L ad ls nL lv →
  W p l e (tk_rm d kc ks) s m args below meth c H locs cells slots (tk_Z below D dA A ad0 n0 s kc ks Q) (F0 m pc ls (st.map (tk_v ad)))
/-- the heap that a method finds -/
def tk_U (D : va_G) (dA : Nat → ClassId) (ad : Nat → Nat) (w : tk_W) (U : State) : Prop :=
  va_P D tk_cl (tk_m dA ad w) U.heap ∧ va_D (fun _ => True) (tk_m dA ad w) ∧ va_K D tk_cl (tk_tys dA) U ∧ tk_wf w ∧ tk_ts U ∧ tk_Th (tk_A ad w U.heap.size) U
/-- a method's CONTRACT at arguments as and world w: it ends, with Q -/
def tk_M (y : MethodName) (cw : Cond) (d kc ks : Nat) (as : List Value) (w : tk_W) (Q : tk_R → tk_W → Prop) : Prop :=
  ∀ l : Launch, l.stackTraces = false → ∀ (D : va_G) (dA : Nat → ClassId) (ad : Nat → Nat), MetFree l y (headSpec [cw] (tk_rm d kc ks)) (fun args U => args = (as.map (tk_v ad)).toArray ∧ tk_U D dA ad w U) (fun _ _ _ _ _ => True)
    (fun _ s o t => tk_Y D dA (tk_A ad w s.heap.size) ad w.length s kc ks Q o t)
theorem tk_at_vm {D : va_G} {q : Nat × va_E} {H : Heap} (h : va_at D tk_cl q H) : ∃ cell : Cell, H[q.1]? = some cell ∧ cell.vm.isStatics = false := by
  obtain ⟨a, x⟩ := q
  rcases x with ⟨cA, n, f⟩ | o
  · have h' : H[a]? = some (vp_cell cA (n, f)) := h
    refine ⟨_, h', ?_⟩
    rcases f with f | f | f | f | f <;> rfl
  · obtain ⟨r, -, cell, q1, q2, q3, -⟩ := h
    exact ⟨cell, q1, by rw [q3]; rfl⟩
theorem tk_U.ns {D : va_G} {dA : Nat → ClassId} {ad : Nat → Nat} {w : tk_W} {H : Heap} (hP : va_P D tk_cl (tk_m dA ad w) H) : ∀ (q : Nat) (cell : Cell), tk_A ad w H.size q → H[q]? = some cell → cell.vm.isStatics = false := by
  intro q cell hq hc
  rcases hq with ⟨k, hk, rfl⟩ | hq
  · obtain ⟨x, hx⟩ : ∃ x, w[k]? = some x := ⟨w[k], List.getElem?_eq_getElem hk⟩
    obtain ⟨c2, h1, h2⟩ := tk_at_vm (hP k _ (tk_m_get hx))
    cases h1.symm.trans hc
    exact h2
  · have := (Array.getElem?_eq_some_iff.mp hc).1
    omega
theorem tk_D_self {D : va_G} {dA : Nat → ClassId} {ad : Nat → Nat} {w : tk_W} {A : Nat → Prop} {sz : Nat} (h : va_D A (tk_m dA ad w)) : va_D (tk_A ad w sz) (tk_m dA ad w) := by
  refine ⟨h.1, fun k q hq => ?_⟩
  obtain ⟨x, hx, rfl⟩ := tk_m_of hq
  exact Or.inl ⟨k, (List.getElem?_eq_some_iff.mp hx).1, rfl⟩
theorem tk_lv0 {ad : Nat → Nat} {as : List Value} {nL : Nat} {lv : List (Option Value)} (hl : (lg_sl as).length ≤ nL) (he : tk_ent as ++ List.replicate (nL - (lg_sl as).length) none = lv) :
    tk_L ad ((lg_sl (as.map (tk_v ad)) ++ List.replicate (nL - (lg_sl (as.map (tk_v ad))).length) Slot.unset).toArray) nL lv := by
  have hlen : (lg_sl (as.map (tk_v ad))).length = (lg_sl as).length := by
    clear hl he
    induction as with
    | nil => rfl
    | cons a as ih =>
      simp only [lg_sl, List.map_cons, List.flatMap_cons, tk_cat, List.length_append] at ih ⊢
      rw [ih]
      congr 1
      split <;> rfl
  have h := lv_entry (as.map (tk_v ad)) (n := nL) (by rw [hlen]; exact hl)
  refine ⟨h.1, h.2.1, fun i v hi => ?_⟩
  subst he
  rcases Nat.lt_or_ge i (tk_ent as).length with hlt | hge
  · rw [List.getElem?_append_left hlt] at hi
    have h1 := tk_ent_at ad as i v hi
    rw [List.getElem?_toArray, List.getElem?_append_left (List.getElem?_eq_some_iff.mp h1).1]
    exact h1
  · rw [List.getElem?_append_right hge, List.getElem?_replicate] at hi
    split at hi <;> cases hi
/-- a contract out of the walk of the body -/
theorem tk_M.of {y : MethodName} {cc : ByteArray} {nL : Nat} {rt : Option FieldType} {d kc ks : Nat} {as : List Value} {w : tk_W} {Q : tk_R → tk_W → Prop} {lv : List (Option Value)} (hy : plainName y.cls = true)
    (hl : (lg_sl as).length ≤ nL) (he : tk_ent as ++ List.replicate (nL - (lg_sl as).length) none = lv)
    (h : tk_T y cc nL rt [] d kc ks (fun _ => none) 0 0 Q 0 lv [] w) : tk_M y (.code y cc nL rt) d kc ks as w Q := by
  intro l hst D dA ad
  refine MetFree.of_bodyS (code := cc) (maxLocals := nL) (ret := rt) hy ?_ ?_
  · intro args s m h0 hn
    obtain ⟨meth, c, h1, h2, h3, h4, h5, h6, -, -⟩ := Cond.code_spec hn (atoms_spec (ws := [.code y cc nL rt]) h0 _ List.mem_cons_self)
    exact ⟨meth, c, h1, h2, h3, h4, h5, h6⟩
  · intro p e s m args below meth c s₁ B hml hP _
    obtain ⟨rfl, hP, hD, hK, hwf, hts, hTh⟩ := hP
    have hh0 : s₁.heap = s.heap := by rw [B.state]; rfl
    have hcw : (Cond.code y cc nL rt).before (as.map (tk_v ad)).toArray s = true := atoms_spec (ws := [.code y cc nL rt]) B.pre _ List.mem_cons_self
    have hex : c.exceptionTable.toList.map (fun h => (h.startPc, h.endPc, h.handlerPc, h.catchType)) = [] := by
      have h9 := B.noHandlers hcw
      have h8 : c.exceptionTable = #[] := by simpa using h9
      rw [h8]; rfl
    have X := h p l e s m (as.map (tk_v ad)).toArray below meth c D dA (tk_A ad w s.heap.size) ad w.length
      ⟨B.exec, B.bytes, hml, B.returns, B.notSynchronized, (name_of_methodNamed B.named B.method).1, findClass_of_methodNamed B.named, hex, hts, hK, fun q hq => Or.inr hq, hTh, tk_U.ns hP, hst, fun k L xs h => by cases h⟩
      ad s.heap [] _ tk_Ag.rf (Nat.le_refl _) hP (tk_D_self (D := D) hD) va_S.rf hwf (tk_lv0 hl he)
    obtain ⟨t, a1, o, b1, b2, b3⟩ := X s₁ hh0 (Stand.of_body B)
    refine ⟨t, o, ?_, b1, b2, b3⟩
    rw [lg_entry_eq]
    exact a1
/-- the same of a method with handlers -/
theorem tk_M.ofW {y : MethodName} {cc : ByteArray} {nL : Nat} {rt : Option FieldType} {hh : List (Nat × Nat × Nat × Nat)} {d kc ks : Nat} {as : List Value} {w : tk_W} {Q : tk_R → tk_W → Prop} {lv : List (Option Value)} (hy : plainName y.cls = true)
    (hl : (lg_sl as).length ≤ nL) (he : tk_ent as ++ List.replicate (nL - (lg_sl as).length) none = lv)
    (h : tk_T y cc nL rt hh d kc ks (fun _ => none) 0 0 Q 0 lv [] w) : tk_M y (.codeWith y cc nL rt hh) d kc ks as w Q := by
  intro l hst D dA ad
  refine MetFree.of_bodyS (code := cc) (maxLocals := nL) (ret := rt) hy ?_ ?_
  · intro args s m h0 hn
    obtain ⟨m', meth, c, h0', h1, h2, h3, h4, -, h5, h6, -⟩ := Cond.codeWith_spec (atoms_spec (ws := [.codeWith y cc nL rt hh]) h0 _ List.mem_cons_self)
    cases hn.symm.trans h0'
    exact ⟨meth, c, h1, h2, h3, h4, h5, h6⟩
  · intro p e s m args below meth c s₁ B hml hP _
    obtain ⟨rfl, hP, hD, hK, hwf, hts, hTh⟩ := hP
    have hh0 : s₁.heap = s.heap := by rw [B.state]; rfl
    have hcw : (Cond.codeWith y cc nL rt hh).before (as.map (tk_v ad)).toArray s = true := atoms_spec (ws := [.codeWith y cc nL rt hh]) B.pre _ List.mem_cons_self
    have hex : c.exceptionTable.toList.map (fun h => (h.startPc, h.endPc, h.handlerPc, h.catchType)) = hh := by
      obtain ⟨m', meth', c', h0', h1, h2, h3, h4, h7, -⟩ := Cond.codeWith_spec hcw
      cases B.named.symm.trans h0'
      cases B.method.symm.trans h1
      cases (Stand.of_body B).code.symm.trans h2
      exact h7
    have X := h p l e s m (as.map (tk_v ad)).toArray below meth c D dA (tk_A ad w s.heap.size) ad w.length
      ⟨B.exec, B.bytes, hml, B.returns, B.notSynchronized, (name_of_methodNamed B.named B.method).1, findClass_of_methodNamed B.named, hex, hts, hK, fun q hq => Or.inr hq, hTh, tk_U.ns hP, hst, fun k L xs h => by cases h⟩
      ad s.heap [] _ tk_Ag.rf (Nat.le_refl _) hP (tk_D_self (D := D) hD) va_S.rf hwf (tk_lv0 hl he)
    obtain ⟨t, a1, o, b1, b2, b3⟩ := X s₁ hh0 (Stand.of_body B)
    refine ⟨t, o, ?_, b1, b2, b3⟩
    rw [lg_entry_eq]
    exact a1
end
section
section TKR
variable {y : MethodName} {cc : ByteArray} {nL : Nat} {rt : Option FieldType} {hh : List (Nat × Nat × Nat × Nat)} {d kc ks : Nat} {ro : Nat → Option (Nat × (Nat → Int32))} {cells slots : Nat} {Q : tk_R → tk_W → Prop} {pc : Nat} {lv : List (Option Value)} {rest : List Value} {w : tk_W}
theorem tk_iadd {x z : Int32} (hd : decode cc pc = .ok (.iadd, 1)) (k : tk_T y cc nL rt hh d kc ks ro cells slots Q (pc + 1) (lv) (.int (x + z) :: rest) (w)) : tk_T y cc nL rt hh d kc ks ro cells slots Q (pc) (lv) (.int z :: .int x :: rest) (w) := by
  intro p l e s m args below meth c D dA A ad0 n0 I ad H locs ls g1 g2 g3 g4 g5 g6 g7
  exact lv_iadd I.1 I.2.1 hd (k p l e s m args below meth c D dA A ad0 n0 I ad H locs ls g1 g2 g3 g4 g5 g6 g7)
theorem tk_isub {x z : Int32} (hd : decode cc pc = .ok (.isub, 1)) (k : tk_T y cc nL rt hh d kc ks ro cells slots Q (pc + 1) (lv) (.int (x - z) :: rest) (w)) : tk_T y cc nL rt hh d kc ks ro cells slots Q (pc) (lv) (.int z :: .int x :: rest) (w) := by
  intro p l e s m args below meth c D dA A ad0 n0 I ad H locs ls g1 g2 g3 g4 g5 g6 g7
  exact lv_isub I.1 I.2.1 hd (k p l e s m args below meth c D dA A ad0 n0 I ad H locs ls g1 g2 g3 g4 g5 g6 g7)
theorem tk_imul {x z : Int32} (hd : decode cc pc = .ok (.imul, 1)) (k : tk_T y cc nL rt hh d kc ks ro cells slots Q (pc + 1) (lv) (.int (x * z) :: rest) (w)) : tk_T y cc nL rt hh d kc ks ro cells slots Q (pc) (lv) (.int z :: .int x :: rest) (w) := by
  intro p l e s m args below meth c D dA A ad0 n0 I ad H locs ls g1 g2 g3 g4 g5 g6 g7
  exact lv_imul I.1 I.2.1 hd (k p l e s m args below meth c D dA A ad0 n0 I ad H locs ls g1 g2 g3 g4 g5 g6 g7)
theorem tk_iand {x z : Int32} (hd : decode cc pc = .ok (.iand, 1)) (k : tk_T y cc nL rt hh d kc ks ro cells slots Q (pc + 1) (lv) (.int (x &&& z) :: rest) (w)) : tk_T y cc nL rt hh d kc ks ro cells slots Q (pc) (lv) (.int z :: .int x :: rest) (w) := by
  intro p l e s m args below meth c D dA A ad0 n0 I ad H locs ls g1 g2 g3 g4 g5 g6 g7
  exact lv_iand I.1 I.2.1 hd (k p l e s m args below meth c D dA A ad0 n0 I ad H locs ls g1 g2 g3 g4 g5 g6 g7)
theorem tk_ior {x z : Int32} (hd : decode cc pc = .ok (.ior, 1)) (k : tk_T y cc nL rt hh d kc ks ro cells slots Q (pc + 1) (lv) (.int (x ||| z) :: rest) (w)) : tk_T y cc nL rt hh d kc ks ro cells slots Q (pc) (lv) (.int z :: .int x :: rest) (w) := by
  intro p l e s m args below meth c D dA A ad0 n0 I ad H locs ls g1 g2 g3 g4 g5 g6 g7
  exact lv_ior I.1 I.2.1 hd (k p l e s m args below meth c D dA A ad0 n0 I ad H locs ls g1 g2 g3 g4 g5 g6 g7)
theorem tk_ixor {x z : Int32} (hd : decode cc pc = .ok (.ixor, 1)) (k : tk_T y cc nL rt hh d kc ks ro cells slots Q (pc + 1) (lv) (.int (x ^^^ z) :: rest) (w)) : tk_T y cc nL rt hh d kc ks ro cells slots Q (pc) (lv) (.int z :: .int x :: rest) (w) := by
  intro p l e s m args below meth c D dA A ad0 n0 I ad H locs ls g1 g2 g3 g4 g5 g6 g7
  exact lv_ixor I.1 I.2.1 hd (k p l e s m args below meth c D dA A ad0 n0 I ad H locs ls g1 g2 g3 g4 g5 g6 g7)
theorem tk_ladd {x z : Int64} (hd : decode cc pc = .ok (.ladd, 1)) (k : tk_T y cc nL rt hh d kc ks ro cells slots Q (pc + 1) (lv) (.long (x + z) :: rest) (w)) : tk_T y cc nL rt hh d kc ks ro cells slots Q (pc) (lv) (.long z :: .long x :: rest) (w) := by
  intro p l e s m args below meth c D dA A ad0 n0 I ad H locs ls g1 g2 g3 g4 g5 g6 g7
  exact lv_ladd I.1 I.2.1 hd (k p l e s m args below meth c D dA A ad0 n0 I ad H locs ls g1 g2 g3 g4 g5 g6 g7)
theorem tk_lsub {x z : Int64} (hd : decode cc pc = .ok (.lsub, 1)) (k : tk_T y cc nL rt hh d kc ks ro cells slots Q (pc + 1) (lv) (.long (x - z) :: rest) (w)) : tk_T y cc nL rt hh d kc ks ro cells slots Q (pc) (lv) (.long z :: .long x :: rest) (w) := by
  intro p l e s m args below meth c D dA A ad0 n0 I ad H locs ls g1 g2 g3 g4 g5 g6 g7
  exact lv_lsub I.1 I.2.1 hd (k p l e s m args below meth c D dA A ad0 n0 I ad H locs ls g1 g2 g3 g4 g5 g6 g7)
theorem tk_lmul {x z : Int64} (hd : decode cc pc = .ok (.lmul, 1)) (k : tk_T y cc nL rt hh d kc ks ro cells slots Q (pc + 1) (lv) (.long (x * z) :: rest) (w)) : tk_T y cc nL rt hh d kc ks ro cells slots Q (pc) (lv) (.long z :: .long x :: rest) (w) := by
  intro p l e s m args below meth c D dA A ad0 n0 I ad H locs ls g1 g2 g3 g4 g5 g6 g7
  exact lv_lmul I.1 I.2.1 hd (k p l e s m args below meth c D dA A ad0 n0 I ad H locs ls g1 g2 g3 g4 g5 g6 g7)
theorem tk_land {x z : Int64} (hd : decode cc pc = .ok (.land, 1)) (k : tk_T y cc nL rt hh d kc ks ro cells slots Q (pc + 1) (lv) (.long (x &&& z) :: rest) (w)) : tk_T y cc nL rt hh d kc ks ro cells slots Q (pc) (lv) (.long z :: .long x :: rest) (w) := by
  intro p l e s m args below meth c D dA A ad0 n0 I ad H locs ls g1 g2 g3 g4 g5 g6 g7
  exact lv_land I.1 I.2.1 hd (k p l e s m args below meth c D dA A ad0 n0 I ad H locs ls g1 g2 g3 g4 g5 g6 g7)
theorem tk_lor {x z : Int64} (hd : decode cc pc = .ok (.lor, 1)) (k : tk_T y cc nL rt hh d kc ks ro cells slots Q (pc + 1) (lv) (.long (x ||| z) :: rest) (w)) : tk_T y cc nL rt hh d kc ks ro cells slots Q (pc) (lv) (.long z :: .long x :: rest) (w) := by
  intro p l e s m args below meth c D dA A ad0 n0 I ad H locs ls g1 g2 g3 g4 g5 g6 g7
  exact lv_lor I.1 I.2.1 hd (k p l e s m args below meth c D dA A ad0 n0 I ad H locs ls g1 g2 g3 g4 g5 g6 g7)
theorem tk_lxor {x z : Int64} (hd : decode cc pc = .ok (.lxor, 1)) (k : tk_T y cc nL rt hh d kc ks ro cells slots Q (pc + 1) (lv) (.long (x ^^^ z) :: rest) (w)) : tk_T y cc nL rt hh d kc ks ro cells slots Q (pc) (lv) (.long z :: .long x :: rest) (w) := by
  intro p l e s m args below meth c D dA A ad0 n0 I ad H locs ls g1 g2 g3 g4 g5 g6 g7
  exact lv_lxor I.1 I.2.1 hd (k p l e s m args below meth c D dA A ad0 n0 I ad H locs ls g1 g2 g3 g4 g5 g6 g7)
theorem tk_idiv {x z : Int32} (hd : decode cc pc = .ok (.idiv, 1)) (hne : ¬ z = 0) (k : tk_T y cc nL rt hh d kc ks ro cells slots Q (pc + 1) (lv) (.int (x / z) :: rest) (w)) : tk_T y cc nL rt hh d kc ks ro cells slots Q (pc) (lv) (.int z :: .int x :: rest) (w) := by
  intro p l e s m args below meth c D dA A ad0 n0 I ad H locs ls g1 g2 g3 g4 g5 g6 g7
  exact lv_idiv I.1 I.2.1 hd hne (k p l e s m args below meth c D dA A ad0 n0 I ad H locs ls g1 g2 g3 g4 g5 g6 g7)
theorem tk_irem {x z : Int32} (hd : decode cc pc = .ok (.irem, 1)) (hne : ¬ z = 0) (k : tk_T y cc nL rt hh d kc ks ro cells slots Q (pc + 1) (lv) (.int (x - x / z * z) :: rest) (w)) : tk_T y cc nL rt hh d kc ks ro cells slots Q (pc) (lv) (.int z :: .int x :: rest) (w) := by
  intro p l e s m args below meth c D dA A ad0 n0 I ad H locs ls g1 g2 g3 g4 g5 g6 g7
  exact lv_irem I.1 I.2.1 hd hne (k p l e s m args below meth c D dA A ad0 n0 I ad H locs ls g1 g2 g3 g4 g5 g6 g7)
theorem tk_ldiv {x z : Int64} (hd : decode cc pc = .ok (.ldiv, 1)) (hne : ¬ z = 0) (k : tk_T y cc nL rt hh d kc ks ro cells slots Q (pc + 1) (lv) (.long (x / z) :: rest) (w)) : tk_T y cc nL rt hh d kc ks ro cells slots Q (pc) (lv) (.long z :: .long x :: rest) (w) := by
  intro p l e s m args below meth c D dA A ad0 n0 I ad H locs ls g1 g2 g3 g4 g5 g6 g7
  exact lv_ldiv I.1 I.2.1 hd hne (k p l e s m args below meth c D dA A ad0 n0 I ad H locs ls g1 g2 g3 g4 g5 g6 g7)
theorem tk_lrem {x z : Int64} (hd : decode cc pc = .ok (.lrem, 1)) (hne : ¬ z = 0) (k : tk_T y cc nL rt hh d kc ks ro cells slots Q (pc + 1) (lv) (.long (x - x / z * z) :: rest) (w)) : tk_T y cc nL rt hh d kc ks ro cells slots Q (pc) (lv) (.long z :: .long x :: rest) (w) := by
  intro p l e s m args below meth c D dA A ad0 n0 I ad H locs ls g1 g2 g3 g4 g5 g6 g7
  exact lv_lrem I.1 I.2.1 hd hne (k p l e s m args below meth c D dA A ad0 n0 I ad H locs ls g1 g2 g3 g4 g5 g6 g7)
theorem tk_ineg {x : Int32} (hd : decode cc pc = .ok (.ineg, 1)) (k : tk_T y cc nL rt hh d kc ks ro cells slots Q (pc + 1) (lv) (.int (-x) :: rest) (w)) : tk_T y cc nL rt hh d kc ks ro cells slots Q (pc) (lv) (.int x :: rest) (w) := by
  intro p l e s m args below meth c D dA A ad0 n0 I ad H locs ls g1 g2 g3 g4 g5 g6 g7
  exact lv_ineg I.1 I.2.1 hd (k p l e s m args below meth c D dA A ad0 n0 I ad H locs ls g1 g2 g3 g4 g5 g6 g7)
theorem tk_lneg {x : Int64} (hd : decode cc pc = .ok (.lneg, 1)) (k : tk_T y cc nL rt hh d kc ks ro cells slots Q (pc + 1) (lv) (.long (-x) :: rest) (w)) : tk_T y cc nL rt hh d kc ks ro cells slots Q (pc) (lv) (.long x :: rest) (w) := by
  intro p l e s m args below meth c D dA A ad0 n0 I ad H locs ls g1 g2 g3 g4 g5 g6 g7
  exact lv_lneg I.1 I.2.1 hd (k p l e s m args below meth c D dA A ad0 n0 I ad H locs ls g1 g2 g3 g4 g5 g6 g7)
theorem tk_ishl {x z : Int32} (hd : decode cc pc = .ok (.ishl, 1)) (k : tk_T y cc nL rt hh d kc ks ro cells slots Q (pc + 1) (lv) (.int (x <<< (z &&& 31)) :: rest) (w)) : tk_T y cc nL rt hh d kc ks ro cells slots Q (pc) (lv) (.int z :: .int x :: rest) (w) := by
  intro p l e s m args below meth c D dA A ad0 n0 I ad H locs ls g1 g2 g3 g4 g5 g6 g7
  exact lv_ishl I.1 I.2.1 hd (k p l e s m args below meth c D dA A ad0 n0 I ad H locs ls g1 g2 g3 g4 g5 g6 g7)
theorem tk_ishr {x z : Int32} (hd : decode cc pc = .ok (.ishr, 1)) (k : tk_T y cc nL rt hh d kc ks ro cells slots Q (pc + 1) (lv) (.int (x >>> (z &&& 31)) :: rest) (w)) : tk_T y cc nL rt hh d kc ks ro cells slots Q (pc) (lv) (.int z :: .int x :: rest) (w) := by
  intro p l e s m args below meth c D dA A ad0 n0 I ad H locs ls g1 g2 g3 g4 g5 g6 g7
  exact lv_ishr I.1 I.2.1 hd (k p l e s m args below meth c D dA A ad0 n0 I ad H locs ls g1 g2 g3 g4 g5 g6 g7)
theorem tk_iushr {x z : Int32} (hd : decode cc pc = .ok (.iushr, 1)) (k : tk_T y cc nL rt hh d kc ks ro cells slots Q (pc + 1) (lv) (.int (x.toUInt32 >>> (z.toUInt32 &&& Int32.toUInt32 31)).toInt32 :: rest) (w)) : tk_T y cc nL rt hh d kc ks ro cells slots Q (pc) (lv) (.int z :: .int x :: rest) (w) := by
  intro p l e s m args below meth c D dA A ad0 n0 I ad H locs ls g1 g2 g3 g4 g5 g6 g7
  exact lv_iushr I.1 I.2.1 hd rfl (k p l e s m args below meth c D dA A ad0 n0 I ad H locs ls g1 g2 g3 g4 g5 g6 g7)
theorem tk_lushr {x : Int64} {z : Int32} (hd : decode cc pc = .ok (.lushr, 1)) (k : tk_T y cc nL rt hh d kc ks ro cells slots Q (pc + 1) (lv) (.long (x.toUInt64 >>> (z.toInt64.toUInt64 &&& Int64.toUInt64 63)).toInt64 :: rest) (w)) : tk_T y cc nL rt hh d kc ks ro cells slots Q (pc) (lv) (.int z :: .long x :: rest) (w) := by
  intro p l e s m args below meth c D dA A ad0 n0 I ad H locs ls g1 g2 g3 g4 g5 g6 g7
  exact lv_lushr I.1 I.2.1 hd rfl (k p l e s m args below meth c D dA A ad0 n0 I ad H locs ls g1 g2 g3 g4 g5 g6 g7)
theorem tk_lshl {x : Int64} {z : Int32} (hd : decode cc pc = .ok (.lshl, 1)) (k : tk_T y cc nL rt hh d kc ks ro cells slots Q (pc + 1) (lv) (.long (x <<< (z.toInt64 &&& 63)) :: rest) (w)) : tk_T y cc nL rt hh d kc ks ro cells slots Q (pc) (lv) (.int z :: .long x :: rest) (w) := by
  intro p l e s m args below meth c D dA A ad0 n0 I ad H locs ls g1 g2 g3 g4 g5 g6 g7
  exact lv_lshl I.1 I.2.1 hd rfl (k p l e s m args below meth c D dA A ad0 n0 I ad H locs ls g1 g2 g3 g4 g5 g6 g7)
theorem tk_i2l {x : Int32} (hd : decode cc pc = .ok (.i2l, 1)) (k : tk_T y cc nL rt hh d kc ks ro cells slots Q (pc + 1) (lv) (.long x.toInt64 :: rest) (w)) : tk_T y cc nL rt hh d kc ks ro cells slots Q (pc) (lv) (.int x :: rest) (w) := by
  intro p l e s m args below meth c D dA A ad0 n0 I ad H locs ls g1 g2 g3 g4 g5 g6 g7
  exact lv_i2l I.1 I.2.1 hd rfl (k p l e s m args below meth c D dA A ad0 n0 I ad H locs ls g1 g2 g3 g4 g5 g6 g7)
theorem tk_l2i {x : Int64} (hd : decode cc pc = .ok (.l2i, 1)) (k : tk_T y cc nL rt hh d kc ks ro cells slots Q (pc + 1) (lv) (.int x.toInt32 :: rest) (w)) : tk_T y cc nL rt hh d kc ks ro cells slots Q (pc) (lv) (.long x :: rest) (w) := by
  intro p l e s m args below meth c D dA A ad0 n0 I ad H locs ls g1 g2 g3 g4 g5 g6 g7
  exact lv_l2i I.1 I.2.1 hd rfl (k p l e s m args below meth c D dA A ad0 n0 I ad H locs ls g1 g2 g3 g4 g5 g6 g7)
theorem tk_lcmp {x z : Int64} (hd : decode cc pc = .ok (.lcmp, 1)) (k : tk_T y cc nL rt hh d kc ks ro cells slots Q (pc + 1) (lv) (.int (lg_cmp x z) :: rest) (w)) : tk_T y cc nL rt hh d kc ks ro cells slots Q (pc) (lv) (.long z :: .long x :: rest) (w) := by
  intro p l e s m args below meth c D dA A ad0 n0 I ad H locs ls g1 g2 g3 g4 g5 g6 g7
  exact W.lcmp I.1 I.2.1 hd (k p l e s m args below meth c D dA A ad0 n0 I ad H locs ls g1 g2 g3 g4 g5 g6 g7)
theorem tk_dup {va : Value} (hd : decode cc pc = .ok (.dup, 1)) (h1 : va.category = 1) (k : tk_T y cc nL rt hh d kc ks ro cells slots Q (pc + 1) (lv) (va :: va :: rest) (w)) : tk_T y cc nL rt hh d kc ks ro cells slots Q (pc) (lv) (va :: rest) (w) := by
  intro p l e s m args below meth c D dA A ad0 n0 I ad H locs ls g1 g2 g3 g4 g5 g6 g7
  exact lv_dup I.1 I.2.1 hd (by rw [tk_cat]; exact h1) (k p l e s m args below meth c D dA A ad0 n0 I ad H locs ls g1 g2 g3 g4 g5 g6 g7)
theorem tk_pop {va : Value} (hd : decode cc pc = .ok (.pop, 1)) (h1 : va.category = 1) (k : tk_T y cc nL rt hh d kc ks ro cells slots Q (pc + 1) (lv) (rest) (w)) : tk_T y cc nL rt hh d kc ks ro cells slots Q (pc) (lv) (va :: rest) (w) := by
  intro p l e s m args below meth c D dA A ad0 n0 I ad H locs ls g1 g2 g3 g4 g5 g6 g7
  exact lv_pop I.1 I.2.1 hd (by rw [tk_cat]; exact h1) (k p l e s m args below meth c D dA A ad0 n0 I ad H locs ls g1 g2 g3 g4 g5 g6 g7)
theorem tk_dup_x1 {va vb : Value} (hd : decode cc pc = .ok (.dup_x1, 1)) (h1 : va.category = 1) (h2 : vb.category = 1) (k : tk_T y cc nL rt hh d kc ks ro cells slots Q (pc + 1) (lv) (va :: vb :: va :: rest) (w)) : tk_T y cc nL rt hh d kc ks ro cells slots Q (pc) (lv) (va :: vb :: rest) (w) := by
  intro p l e s m args below meth c D dA A ad0 n0 I ad H locs ls g1 g2 g3 g4 g5 g6 g7
  exact lv_dup_x1 I.1 I.2.1 hd (by rw [tk_cat]; exact h1) (by rw [tk_cat]; exact h2) (k p l e s m args below meth c D dA A ad0 n0 I ad H locs ls g1 g2 g3 g4 g5 g6 g7)
theorem tk_dup_x2 {va vb vd : Value} (hd : decode cc pc = .ok (.dup_x2, 1)) (h1 : va.category = 1) (h2 : vb.category = 1) (h3 : vd.category = 1) (k : tk_T y cc nL rt hh d kc ks ro cells slots Q (pc + 1) (lv) (va :: vb :: vd :: va :: rest) (w)) : tk_T y cc nL rt hh d kc ks ro cells slots Q (pc) (lv) (va :: vb :: vd :: rest) (w) := by
  intro p l e s m args below meth c D dA A ad0 n0 I ad H locs ls g1 g2 g3 g4 g5 g6 g7
  exact lv_dup_x2 I.1 I.2.1 hd (by rw [tk_cat]; exact h1) (by rw [tk_cat]; exact h2) (by rw [tk_cat]; exact h3) (k p l e s m args below meth c D dA A ad0 n0 I ad H locs ls g1 g2 g3 g4 g5 g6 g7)
theorem tk_dup2 {va vb : Value} (hd : decode cc pc = .ok (.dup2, 1)) (h1 : va.category = 1) (h2 : vb.category = 1) (k : tk_T y cc nL rt hh d kc ks ro cells slots Q (pc + 1) (lv) (va :: vb :: va :: vb :: rest) (w)) : tk_T y cc nL rt hh d kc ks ro cells slots Q (pc) (lv) (va :: vb :: rest) (w) := by
  intro p l e s m args below meth c D dA A ad0 n0 I ad H locs ls g1 g2 g3 g4 g5 g6 g7
  exact lv_dup2_11 I.1 I.2.1 hd (by rw [tk_cat]; exact h1) (by rw [tk_cat]; exact h2) (k p l e s m args below meth c D dA A ad0 n0 I ad H locs ls g1 g2 g3 g4 g5 g6 g7)
theorem tk_dup2L {va : Value} (hd : decode cc pc = .ok (.dup2, 1)) (h1 : va.category = 2) (k : tk_T y cc nL rt hh d kc ks ro cells slots Q (pc + 1) (lv) (va :: va :: rest) (w)) : tk_T y cc nL rt hh d kc ks ro cells slots Q (pc) (lv) (va :: rest) (w) := by
  intro p l e s m args below meth c D dA A ad0 n0 I ad H locs ls g1 g2 g3 g4 g5 g6 g7
  exact lv_dup2_2 I.1 I.2.1 hd (by rw [tk_cat]; exact h1) (k p l e s m args below meth c D dA A ad0 n0 I ad H locs ls g1 g2 g3 g4 g5 g6 g7)
theorem tk_iconst {n : Int} {v : Int32} (hd : decode cc pc = .ok (.iconst n, 1)) (hv : Int32.ofInt n = v) (k : tk_T y cc nL rt hh d kc ks ro cells slots Q (pc + 1) (lv) (.int v :: rest) (w)) : tk_T y cc nL rt hh d kc ks ro cells slots Q (pc) (lv) (rest) (w) := by
  intro p l e s m args below meth c D dA A ad0 n0 I ad H locs ls g1 g2 g3 g4 g5 g6 g7
  exact lv_iconst I.1 I.2.1 hd hv (k p l e s m args below meth c D dA A ad0 n0 I ad H locs ls g1 g2 g3 g4 g5 g6 g7)
theorem tk_bipush {n : Int} {v : Int32} (hd : decode cc pc = .ok (.bipush n, 2)) (hv : (Int8.ofInt n).toInt32 = v) (k : tk_T y cc nL rt hh d kc ks ro cells slots Q (pc + 2) (lv) (.int v :: rest) (w)) : tk_T y cc nL rt hh d kc ks ro cells slots Q (pc) (lv) (rest) (w) := by
  intro p l e s m args below meth c D dA A ad0 n0 I ad H locs ls g1 g2 g3 g4 g5 g6 g7
  exact lv_bipush I.1 I.2.1 hd hv (k p l e s m args below meth c D dA A ad0 n0 I ad H locs ls g1 g2 g3 g4 g5 g6 g7)
theorem tk_sipush {n : Int} {v : Int32} (hd : decode cc pc = .ok (.sipush n, 3)) (hv : (Int16.ofInt n).toInt32 = v) (k : tk_T y cc nL rt hh d kc ks ro cells slots Q (pc + 3) (lv) (.int v :: rest) (w)) : tk_T y cc nL rt hh d kc ks ro cells slots Q (pc) (lv) (rest) (w) := by
  intro p l e s m args below meth c D dA A ad0 n0 I ad H locs ls g1 g2 g3 g4 g5 g6 g7
  exact lv_sipush I.1 I.2.1 hd hv (k p l e s m args below meth c D dA A ad0 n0 I ad H locs ls g1 g2 g3 g4 g5 g6 g7)
theorem tk_lconst {n : Fin 2} {v : Int64} (hd : decode cc pc = .ok (.lconst n, 1)) (hv : Int64.ofNat (n : Nat) = v) (k : tk_T y cc nL rt hh d kc ks ro cells slots Q (pc + 1) (lv) (.long v :: rest) (w)) : tk_T y cc nL rt hh d kc ks ro cells slots Q (pc) (lv) (rest) (w) := by
  intro p l e s m args below meth c D dA A ad0 n0 I ad H locs ls g1 g2 g3 g4 g5 g6 g7
  exact lv_lconst I.1 I.2.1 hd hv (k p l e s m args below meth c D dA A ad0 n0 I ad H locs ls g1 g2 g3 g4 g5 g6 g7)
theorem tk_ldc {n : Nat} {v : Int32} (hd : decode cc pc = .ok (.ldc n, 2)) (hv : Cond.constant y.cls n v ∈ tk_tbl) (k : tk_T y cc nL rt hh d kc ks ro cells slots Q (pc + 2) (lv) (.int v :: rest) (w)) : tk_T y cc nL rt hh d kc ks ro cells slots Q (pc) (lv) (rest) (w) := by
  intro p l e s m args below meth c D dA A ad0 n0 I ad H locs ls g1 g2 g3 g4 g5 g6 g7
  exact lv_ldc I.1 I.2.1 I.2.2.2.2.2.2.1 (I.2.2.2.2.2.2.2.2.1 _ hv args) hd (k p l e s m args below meth c D dA A ad0 n0 I ad H locs ls g1 g2 g3 g4 g5 g6 g7)
theorem tk_ldc2 {n : Nat} {v : Int64} (hd : decode cc pc = .ok (.ldc2_w n, 3)) (hv : Cond.constantLong y.cls n v ∈ tk_tbl) (k : tk_T y cc nL rt hh d kc ks ro cells slots Q (pc + 3) (lv) (.long v :: rest) (w)) : tk_T y cc nL rt hh d kc ks ro cells slots Q (pc) (lv) (rest) (w) := by
  intro p l e s m args below meth c D dA A ad0 n0 I ad H locs ls g1 g2 g3 g4 g5 g6 g7
  exact lv_ldc2 I.1 I.2.1 I.2.2.2.2.2.2.1 (I.2.2.2.2.2.2.2.2.1 _ hv args) hd (k p l e s m args below meth c D dA A ad0 n0 I ad H locs ls g1 g2 g3 g4 g5 g6 g7)
theorem tk_iload_n {k : Fin 4} {x : Int32} (hd : decode cc pc = .ok (.iload_n k, 1)) (hl : lv[(k : Nat)]? = some (some (.int x))) (kk : tk_T y cc nL rt hh d kc ks ro cells slots Q (pc + 1) (lv) (.int x :: rest) (w)) : tk_T y cc nL rt hh d kc ks ro cells slots Q (pc) (lv) (rest) (w) := by
  intro p l e s m args below meth c D dA A ad0 n0 I ad H locs ls g1 g2 g3 g4 g5 g6 g7
  exact lv_iload_n I.1 I.2.1 hd rfl (g7.2.2 _ _ hl) (kk p l e s m args below meth c D dA A ad0 n0 I ad H locs ls g1 g2 g3 g4 g5 g6 g7)
theorem tk_iload {i : Nat} {x : Int32} (hd : decode cc pc = .ok (.iload i, 2)) (hl : lv[i]? = some (some (.int x))) (kk : tk_T y cc nL rt hh d kc ks ro cells slots Q (pc + 2) (lv) (.int x :: rest) (w)) : tk_T y cc nL rt hh d kc ks ro cells slots Q (pc) (lv) (rest) (w) := by
  intro p l e s m args below meth c D dA A ad0 n0 I ad H locs ls g1 g2 g3 g4 g5 g6 g7
  exact lv_iload I.1 I.2.1 hd (g7.2.2 _ _ hl) (kk p l e s m args below meth c D dA A ad0 n0 I ad H locs ls g1 g2 g3 g4 g5 g6 g7)
theorem tk_lload_n {k : Fin 4} {x : Int64} (hd : decode cc pc = .ok (.lload_n k, 1)) (hl : lv[(k : Nat)]? = some (some (.long x))) (kk : tk_T y cc nL rt hh d kc ks ro cells slots Q (pc + 1) (lv) (.long x :: rest) (w)) : tk_T y cc nL rt hh d kc ks ro cells slots Q (pc) (lv) (rest) (w) := by
  intro p l e s m args below meth c D dA A ad0 n0 I ad H locs ls g1 g2 g3 g4 g5 g6 g7
  exact lv_lload_n I.1 I.2.1 hd rfl (g7.2.2 _ _ hl) (kk p l e s m args below meth c D dA A ad0 n0 I ad H locs ls g1 g2 g3 g4 g5 g6 g7)
theorem tk_lload {i : Nat} {x : Int64} (hd : decode cc pc = .ok (.lload i, 2)) (hl : lv[i]? = some (some (.long x))) (kk : tk_T y cc nL rt hh d kc ks ro cells slots Q (pc + 2) (lv) (.long x :: rest) (w)) : tk_T y cc nL rt hh d kc ks ro cells slots Q (pc) (lv) (rest) (w) := by
  intro p l e s m args below meth c D dA A ad0 n0 I ad H locs ls g1 g2 g3 g4 g5 g6 g7
  exact lv_lload I.1 I.2.1 hd (g7.2.2 _ _ hl) (kk p l e s m args below meth c D dA A ad0 n0 I ad H locs ls g1 g2 g3 g4 g5 g6 g7)
theorem tk_aload_n {k : Fin 4} {x : Nat} (hd : decode cc pc = .ok (.aload_n k, 1)) (hl : lv[(k : Nat)]? = some (some (.ref x))) (kk : tk_T y cc nL rt hh d kc ks ro cells slots Q (pc + 1) (lv) (.ref x :: rest) (w)) : tk_T y cc nL rt hh d kc ks ro cells slots Q (pc) (lv) (rest) (w) := by
  intro p l e s m args below meth c D dA A ad0 n0 I ad H locs ls g1 g2 g3 g4 g5 g6 g7
  exact lv_aload_n I.1 I.2.1 hd rfl (g7.2.2 _ _ hl) (kk p l e s m args below meth c D dA A ad0 n0 I ad H locs ls g1 g2 g3 g4 g5 g6 g7)
theorem tk_aload {i : Nat} {x : Nat} (hd : decode cc pc = .ok (.aload i, 2)) (hl : lv[i]? = some (some (.ref x))) (kk : tk_T y cc nL rt hh d kc ks ro cells slots Q (pc + 2) (lv) (.ref x :: rest) (w)) : tk_T y cc nL rt hh d kc ks ro cells slots Q (pc) (lv) (rest) (w) := by
  intro p l e s m args below meth c D dA A ad0 n0 I ad H locs ls g1 g2 g3 g4 g5 g6 g7
  exact lv_aload I.1 I.2.1 hd (g7.2.2 _ _ hl) (kk p l e s m args below meth c D dA A ad0 n0 I ad H locs ls g1 g2 g3 g4 g5 g6 g7)
theorem tk_istore_g {i : Nat} {x : Int32} (hd : decode cc pc = .ok (.istore i, 2)) (hp : tk_pc lv i = true) (hn : i < nL) (kk : tk_T y cc nL rt hh d kc ks ro cells slots Q (pc + 2) (lv.set i (some (.int x))) (rest) (w)) : tk_T y cc nL rt hh d kc ks ro cells slots Q (pc) (lv) (.int x :: rest) (w) := by
  intro p l e s m args below meth c D dA A ad0 n0 I ad H locs ls g1 g2 g3 g4 g5 g6 g7
  exact lv_istore I.1 I.2.1 hd g7.has hn rfl (fun ls' h' => kk p l e s m args below meth c D dA A ad0 n0 I ad H locs ls' g1 g2 g3 g4 g5 g6 (tk_L.st1 (v := .int x) hp h'))
theorem tk_istore_ng {k : Fin 4} {i : Nat} {x : Int32} (hd : decode cc pc = .ok (.istore_n k, 1)) (hi : (k : Nat) = i) (hp : tk_pc lv i = true) (hn : i < nL) (kk : tk_T y cc nL rt hh d kc ks ro cells slots Q (pc + 1) (lv.set i (some (.int x))) (rest) (w)) : tk_T y cc nL rt hh d kc ks ro cells slots Q (pc) (lv) (.int x :: rest) (w) := by
  intro p l e s m args below meth c D dA A ad0 n0 I ad H locs ls g1 g2 g3 g4 g5 g6 g7
  exact lv_istore_n I.1 I.2.1 hd hi g7.has hn rfl (fun ls' h' => kk p l e s m args below meth c D dA A ad0 n0 I ad H locs ls' g1 g2 g3 g4 g5 g6 (tk_L.st1 (v := .int x) hp h'))
theorem tk_lstore_g {i : Nat} {x : Int64} (hd : decode cc pc = .ok (.lstore i, 2)) (hp : tk_pc lv i = true) (hn : i + 1 < nL) (kk : tk_T y cc nL rt hh d kc ks ro cells slots Q (pc + 2) ((lv.set i (some (.long x))).set (i + 1) none) (rest) (w)) : tk_T y cc nL rt hh d kc ks ro cells slots Q (pc) (lv) (.long x :: rest) (w) := by
  intro p l e s m args below meth c D dA A ad0 n0 I ad H locs ls g1 g2 g3 g4 g5 g6 g7
  exact lv_lstore I.1 I.2.1 hd g7.has hn rfl (fun ls' h' => kk p l e s m args below meth c D dA A ad0 n0 I ad H locs ls' g1 g2 g3 g4 g5 g6 (tk_L.st2 (v := .long x) hp h'))
theorem tk_lstore_ng {k : Fin 4} {i : Nat} {x : Int64} (hd : decode cc pc = .ok (.lstore_n k, 1)) (hi : (k : Nat) = i) (hp : tk_pc lv i = true) (hn : i + 1 < nL) (kk : tk_T y cc nL rt hh d kc ks ro cells slots Q (pc + 1) ((lv.set i (some (.long x))).set (i + 1) none) (rest) (w)) : tk_T y cc nL rt hh d kc ks ro cells slots Q (pc) (lv) (.long x :: rest) (w) := by
  intro p l e s m args below meth c D dA A ad0 n0 I ad H locs ls g1 g2 g3 g4 g5 g6 g7
  exact lv_lstore_n I.1 I.2.1 hd hi g7.has hn rfl (fun ls' h' => kk p l e s m args below meth c D dA A ad0 n0 I ad H locs ls' g1 g2 g3 g4 g5 g6 (tk_L.st2 (v := .long x) hp h'))
theorem tk_astore_g {i : Nat} {x : Nat} (hd : decode cc pc = .ok (.astore i, 2)) (hp : tk_pc lv i = true) (hn : i < nL) (kk : tk_T y cc nL rt hh d kc ks ro cells slots Q (pc + 2) (lv.set i (some (.ref x))) (rest) (w)) : tk_T y cc nL rt hh d kc ks ro cells slots Q (pc) (lv) (.ref x :: rest) (w) := by
  intro p l e s m args below meth c D dA A ad0 n0 I ad H locs ls g1 g2 g3 g4 g5 g6 g7
  exact lv_astore I.1 I.2.1 hd g7.has hn rfl (fun ls' h' => kk p l e s m args below meth c D dA A ad0 n0 I ad H locs ls' g1 g2 g3 g4 g5 g6 (tk_L.st1 (v := .ref x) hp h'))
theorem tk_astore_ng {k : Fin 4} {i : Nat} {x : Nat} (hd : decode cc pc = .ok (.astore_n k, 1)) (hi : (k : Nat) = i) (hp : tk_pc lv i = true) (hn : i < nL) (kk : tk_T y cc nL rt hh d kc ks ro cells slots Q (pc + 1) (lv.set i (some (.ref x))) (rest) (w)) : tk_T y cc nL rt hh d kc ks ro cells slots Q (pc) (lv) (.ref x :: rest) (w) := by
  intro p l e s m args below meth c D dA A ad0 n0 I ad H locs ls g1 g2 g3 g4 g5 g6 g7
  exact lv_astore_n I.1 I.2.1 hd hi g7.has hn rfl (fun ls' h' => kk p l e s m args below meth c D dA A ad0 n0 I ad H locs ls' g1 g2 g3 g4 g5 g6 (tk_L.st1 (v := .ref x) hp h'))
theorem tk_iinc_g {i : Nat} {n : Int} {x : Int32} (hd : decode cc pc = .ok (.iinc i n, 3)) (hl : lv[i]? = some (some (.int x))) (hp : tk_pc lv i = true) (hn : i < nL) (kk : tk_T y cc nL rt hh d kc ks ro cells slots Q (pc + 3) (lv.set i (some (.int (x + Int32.ofInt n)))) (rest) (w)) : tk_T y cc nL rt hh d kc ks ro cells slots Q (pc) (lv) (rest) (w) := by
  intro p l e s m args below meth c D dA A ad0 n0 I ad H locs ls g1 g2 g3 g4 g5 g6 g7
  obtain ⟨j, hj⟩ := List.getElem?_of_mem (tk_pr_in (ad := ad) hl)
  exact lv_iinc I.1 I.2.1 hd g7.has hj rfl hn rfl (fun ls' h' => kk p l e s m args below meth c D dA A ad0 n0 I ad H locs ls' g1 g2 g3 g4 g5 g6 (tk_L.st1 (v := .int (x + Int32.ofInt n)) hp h'))
theorem tk_istore0 {b0 : Option Value} {r : List (Option Value)} {x : Int32} (hd : decode cc pc = .ok (.istore_n 0, 1))  (hn : 0 < nL) (kk : tk_T y cc nL rt hh d kc ks ro cells slots Q (pc + 1) (some (.int x) :: r) (rest) (w)) : tk_T y cc nL rt hh d kc ks ro cells slots Q (pc) (b0 :: r) (.int x :: rest) (w) := tk_istore_ng (lv := b0 :: r) (k := 0) (i := 0) hd rfl rfl hn kk
theorem tk_lstore0 {b0 b1 : Option Value} {r : List (Option Value)} {x : Int64} (hd : decode cc pc = .ok (.lstore_n 0, 1))  (hn : 0 + 1 < nL) (kk : tk_T y cc nL rt hh d kc ks ro cells slots Q (pc + 1) (some (.long x) :: none :: r) (rest) (w)) : tk_T y cc nL rt hh d kc ks ro cells slots Q (pc) (b0 :: b1 :: r) (.long x :: rest) (w) := tk_lstore_ng (lv := b0 :: b1 :: r) (k := 0) (i := 0) hd rfl rfl hn kk
theorem tk_astore0 {b0 : Option Value} {r : List (Option Value)} {x : Nat} (hd : decode cc pc = .ok (.astore_n 0, 1))  (hn : 0 < nL) (kk : tk_T y cc nL rt hh d kc ks ro cells slots Q (pc + 1) (some (.ref x) :: r) (rest) (w)) : tk_T y cc nL rt hh d kc ks ro cells slots Q (pc) (b0 :: r) (.ref x :: rest) (w) := tk_astore_ng (lv := b0 :: r) (k := 0) (i := 0) hd rfl rfl hn kk
theorem tk_iinc0 {b0 : Option Value} {r : List (Option Value)} {n : Int} {x : Int32} (hd : decode cc pc = .ok (.iinc 0 n, 3))  (hn : 0 < nL) (kk : tk_T y cc nL rt hh d kc ks ro cells slots Q (pc + 3) (some (.int (x + Int32.ofInt n)) :: r) (rest) (w)) : tk_T y cc nL rt hh d kc ks ro cells slots Q (pc) (some (.int x) :: r) (rest) (w) := tk_iinc_g (lv := some (.int x) :: r) (i := 0) hd rfl rfl hn kk
theorem tk_istore1 {a0 b0 : Option Value} {r : List (Option Value)} {x : Int32} (hd : decode cc pc = .ok (.istore_n 1, 1)) (hp : tk_p1 a0 = true) (hn : 1 < nL) (kk : tk_T y cc nL rt hh d kc ks ro cells slots Q (pc + 1) (a0 :: some (.int x) :: r) (rest) (w)) : tk_T y cc nL rt hh d kc ks ro cells slots Q (pc) (a0 :: b0 :: r) (.int x :: rest) (w) := tk_istore_ng (lv := a0 :: b0 :: r) (k := 1) (i := 1) hd rfl hp hn kk
theorem tk_lstore1 {a0 b0 b1 : Option Value} {r : List (Option Value)} {x : Int64} (hd : decode cc pc = .ok (.lstore_n 1, 1)) (hp : tk_p1 a0 = true) (hn : 1 + 1 < nL) (kk : tk_T y cc nL rt hh d kc ks ro cells slots Q (pc + 1) (a0 :: some (.long x) :: none :: r) (rest) (w)) : tk_T y cc nL rt hh d kc ks ro cells slots Q (pc) (a0 :: b0 :: b1 :: r) (.long x :: rest) (w) := tk_lstore_ng (lv := a0 :: b0 :: b1 :: r) (k := 1) (i := 1) hd rfl hp hn kk
theorem tk_astore1 {a0 b0 : Option Value} {r : List (Option Value)} {x : Nat} (hd : decode cc pc = .ok (.astore_n 1, 1)) (hp : tk_p1 a0 = true) (hn : 1 < nL) (kk : tk_T y cc nL rt hh d kc ks ro cells slots Q (pc + 1) (a0 :: some (.ref x) :: r) (rest) (w)) : tk_T y cc nL rt hh d kc ks ro cells slots Q (pc) (a0 :: b0 :: r) (.ref x :: rest) (w) := tk_astore_ng (lv := a0 :: b0 :: r) (k := 1) (i := 1) hd rfl hp hn kk
theorem tk_iinc1 {a0 b0 : Option Value} {r : List (Option Value)} {n : Int} {x : Int32} (hd : decode cc pc = .ok (.iinc 1 n, 3)) (hp : tk_p1 a0 = true) (hn : 1 < nL) (kk : tk_T y cc nL rt hh d kc ks ro cells slots Q (pc + 3) (a0 :: some (.int (x + Int32.ofInt n)) :: r) (rest) (w)) : tk_T y cc nL rt hh d kc ks ro cells slots Q (pc) (a0 :: some (.int x) :: r) (rest) (w) := tk_iinc_g (lv := a0 :: some (.int x) :: r) (i := 1) hd rfl hp hn kk
theorem tk_istore2 {a0 a1 b0 : Option Value} {r : List (Option Value)} {x : Int32} (hd : decode cc pc = .ok (.istore_n 2, 1)) (hp : tk_p1 a1 = true) (hn : 2 < nL) (kk : tk_T y cc nL rt hh d kc ks ro cells slots Q (pc + 1) (a0 :: a1 :: some (.int x) :: r) (rest) (w)) : tk_T y cc nL rt hh d kc ks ro cells slots Q (pc) (a0 :: a1 :: b0 :: r) (.int x :: rest) (w) := tk_istore_ng (lv := a0 :: a1 :: b0 :: r) (k := 2) (i := 2) hd rfl hp hn kk
theorem tk_lstore2 {a0 a1 b0 b1 : Option Value} {r : List (Option Value)} {x : Int64} (hd : decode cc pc = .ok (.lstore_n 2, 1)) (hp : tk_p1 a1 = true) (hn : 2 + 1 < nL) (kk : tk_T y cc nL rt hh d kc ks ro cells slots Q (pc + 1) (a0 :: a1 :: some (.long x) :: none :: r) (rest) (w)) : tk_T y cc nL rt hh d kc ks ro cells slots Q (pc) (a0 :: a1 :: b0 :: b1 :: r) (.long x :: rest) (w) := tk_lstore_ng (lv := a0 :: a1 :: b0 :: b1 :: r) (k := 2) (i := 2) hd rfl hp hn kk
theorem tk_astore2 {a0 a1 b0 : Option Value} {r : List (Option Value)} {x : Nat} (hd : decode cc pc = .ok (.astore_n 2, 1)) (hp : tk_p1 a1 = true) (hn : 2 < nL) (kk : tk_T y cc nL rt hh d kc ks ro cells slots Q (pc + 1) (a0 :: a1 :: some (.ref x) :: r) (rest) (w)) : tk_T y cc nL rt hh d kc ks ro cells slots Q (pc) (a0 :: a1 :: b0 :: r) (.ref x :: rest) (w) := tk_astore_ng (lv := a0 :: a1 :: b0 :: r) (k := 2) (i := 2) hd rfl hp hn kk
theorem tk_iinc2 {a0 a1 b0 : Option Value} {r : List (Option Value)} {n : Int} {x : Int32} (hd : decode cc pc = .ok (.iinc 2 n, 3)) (hp : tk_p1 a1 = true) (hn : 2 < nL) (kk : tk_T y cc nL rt hh d kc ks ro cells slots Q (pc + 3) (a0 :: a1 :: some (.int (x + Int32.ofInt n)) :: r) (rest) (w)) : tk_T y cc nL rt hh d kc ks ro cells slots Q (pc) (a0 :: a1 :: some (.int x) :: r) (rest) (w) := tk_iinc_g (lv := a0 :: a1 :: some (.int x) :: r) (i := 2) hd rfl hp hn kk
theorem tk_istore3 {a0 a1 a2 b0 : Option Value} {r : List (Option Value)} {x : Int32} (hd : decode cc pc = .ok (.istore_n 3, 1)) (hp : tk_p1 a2 = true) (hn : 3 < nL) (kk : tk_T y cc nL rt hh d kc ks ro cells slots Q (pc + 1) (a0 :: a1 :: a2 :: some (.int x) :: r) (rest) (w)) : tk_T y cc nL rt hh d kc ks ro cells slots Q (pc) (a0 :: a1 :: a2 :: b0 :: r) (.int x :: rest) (w) := tk_istore_ng (lv := a0 :: a1 :: a2 :: b0 :: r) (k := 3) (i := 3) hd rfl hp hn kk
theorem tk_lstore3 {a0 a1 a2 b0 b1 : Option Value} {r : List (Option Value)} {x : Int64} (hd : decode cc pc = .ok (.lstore_n 3, 1)) (hp : tk_p1 a2 = true) (hn : 3 + 1 < nL) (kk : tk_T y cc nL rt hh d kc ks ro cells slots Q (pc + 1) (a0 :: a1 :: a2 :: some (.long x) :: none :: r) (rest) (w)) : tk_T y cc nL rt hh d kc ks ro cells slots Q (pc) (a0 :: a1 :: a2 :: b0 :: b1 :: r) (.long x :: rest) (w) := tk_lstore_ng (lv := a0 :: a1 :: a2 :: b0 :: b1 :: r) (k := 3) (i := 3) hd rfl hp hn kk
theorem tk_astore3 {a0 a1 a2 b0 : Option Value} {r : List (Option Value)} {x : Nat} (hd : decode cc pc = .ok (.astore_n 3, 1)) (hp : tk_p1 a2 = true) (hn : 3 < nL) (kk : tk_T y cc nL rt hh d kc ks ro cells slots Q (pc + 1) (a0 :: a1 :: a2 :: some (.ref x) :: r) (rest) (w)) : tk_T y cc nL rt hh d kc ks ro cells slots Q (pc) (a0 :: a1 :: a2 :: b0 :: r) (.ref x :: rest) (w) := tk_astore_ng (lv := a0 :: a1 :: a2 :: b0 :: r) (k := 3) (i := 3) hd rfl hp hn kk
theorem tk_iinc3 {a0 a1 a2 b0 : Option Value} {r : List (Option Value)} {n : Int} {x : Int32} (hd : decode cc pc = .ok (.iinc 3 n, 3)) (hp : tk_p1 a2 = true) (hn : 3 < nL) (kk : tk_T y cc nL rt hh d kc ks ro cells slots Q (pc + 3) (a0 :: a1 :: a2 :: some (.int (x + Int32.ofInt n)) :: r) (rest) (w)) : tk_T y cc nL rt hh d kc ks ro cells slots Q (pc) (a0 :: a1 :: a2 :: some (.int x) :: r) (rest) (w) := tk_iinc_g (lv := a0 :: a1 :: a2 :: some (.int x) :: r) (i := 3) hd rfl hp hn kk
theorem tk_istore4 {a0 a1 a2 a3 b0 : Option Value} {r : List (Option Value)} {x : Int32} (hd : decode cc pc = .ok (.istore 4, 2)) (hp : tk_p1 a3 = true) (hn : 4 < nL) (kk : tk_T y cc nL rt hh d kc ks ro cells slots Q (pc + 2) (a0 :: a1 :: a2 :: a3 :: some (.int x) :: r) (rest) (w)) : tk_T y cc nL rt hh d kc ks ro cells slots Q (pc) (a0 :: a1 :: a2 :: a3 :: b0 :: r) (.int x :: rest) (w) := tk_istore_g (lv := a0 :: a1 :: a2 :: a3 :: b0 :: r) (i := 4) hd hp hn kk
theorem tk_lstore4 {a0 a1 a2 a3 b0 b1 : Option Value} {r : List (Option Value)} {x : Int64} (hd : decode cc pc = .ok (.lstore 4, 2)) (hp : tk_p1 a3 = true) (hn : 4 + 1 < nL) (kk : tk_T y cc nL rt hh d kc ks ro cells slots Q (pc + 2) (a0 :: a1 :: a2 :: a3 :: some (.long x) :: none :: r) (rest) (w)) : tk_T y cc nL rt hh d kc ks ro cells slots Q (pc) (a0 :: a1 :: a2 :: a3 :: b0 :: b1 :: r) (.long x :: rest) (w) := tk_lstore_g (lv := a0 :: a1 :: a2 :: a3 :: b0 :: b1 :: r) (i := 4) hd hp hn kk
theorem tk_astore4 {a0 a1 a2 a3 b0 : Option Value} {r : List (Option Value)} {x : Nat} (hd : decode cc pc = .ok (.astore 4, 2)) (hp : tk_p1 a3 = true) (hn : 4 < nL) (kk : tk_T y cc nL rt hh d kc ks ro cells slots Q (pc + 2) (a0 :: a1 :: a2 :: a3 :: some (.ref x) :: r) (rest) (w)) : tk_T y cc nL rt hh d kc ks ro cells slots Q (pc) (a0 :: a1 :: a2 :: a3 :: b0 :: r) (.ref x :: rest) (w) := tk_astore_g (lv := a0 :: a1 :: a2 :: a3 :: b0 :: r) (i := 4) hd hp hn kk
theorem tk_iinc4 {a0 a1 a2 a3 b0 : Option Value} {r : List (Option Value)} {n : Int} {x : Int32} (hd : decode cc pc = .ok (.iinc 4 n, 3)) (hp : tk_p1 a3 = true) (hn : 4 < nL) (kk : tk_T y cc nL rt hh d kc ks ro cells slots Q (pc + 3) (a0 :: a1 :: a2 :: a3 :: some (.int (x + Int32.ofInt n)) :: r) (rest) (w)) : tk_T y cc nL rt hh d kc ks ro cells slots Q (pc) (a0 :: a1 :: a2 :: a3 :: some (.int x) :: r) (rest) (w) := tk_iinc_g (lv := a0 :: a1 :: a2 :: a3 :: some (.int x) :: r) (i := 4) hd rfl hp hn kk
theorem tk_istore5 {a0 a1 a2 a3 a4 b0 : Option Value} {r : List (Option Value)} {x : Int32} (hd : decode cc pc = .ok (.istore 5, 2)) (hp : tk_p1 a4 = true) (hn : 5 < nL) (kk : tk_T y cc nL rt hh d kc ks ro cells slots Q (pc + 2) (a0 :: a1 :: a2 :: a3 :: a4 :: some (.int x) :: r) (rest) (w)) : tk_T y cc nL rt hh d kc ks ro cells slots Q (pc) (a0 :: a1 :: a2 :: a3 :: a4 :: b0 :: r) (.int x :: rest) (w) := tk_istore_g (lv := a0 :: a1 :: a2 :: a3 :: a4 :: b0 :: r) (i := 5) hd hp hn kk
theorem tk_lstore5 {a0 a1 a2 a3 a4 b0 b1 : Option Value} {r : List (Option Value)} {x : Int64} (hd : decode cc pc = .ok (.lstore 5, 2)) (hp : tk_p1 a4 = true) (hn : 5 + 1 < nL) (kk : tk_T y cc nL rt hh d kc ks ro cells slots Q (pc + 2) (a0 :: a1 :: a2 :: a3 :: a4 :: some (.long x) :: none :: r) (rest) (w)) : tk_T y cc nL rt hh d kc ks ro cells slots Q (pc) (a0 :: a1 :: a2 :: a3 :: a4 :: b0 :: b1 :: r) (.long x :: rest) (w) := tk_lstore_g (lv := a0 :: a1 :: a2 :: a3 :: a4 :: b0 :: b1 :: r) (i := 5) hd hp hn kk
theorem tk_astore5 {a0 a1 a2 a3 a4 b0 : Option Value} {r : List (Option Value)} {x : Nat} (hd : decode cc pc = .ok (.astore 5, 2)) (hp : tk_p1 a4 = true) (hn : 5 < nL) (kk : tk_T y cc nL rt hh d kc ks ro cells slots Q (pc + 2) (a0 :: a1 :: a2 :: a3 :: a4 :: some (.ref x) :: r) (rest) (w)) : tk_T y cc nL rt hh d kc ks ro cells slots Q (pc) (a0 :: a1 :: a2 :: a3 :: a4 :: b0 :: r) (.ref x :: rest) (w) := tk_astore_g (lv := a0 :: a1 :: a2 :: a3 :: a4 :: b0 :: r) (i := 5) hd hp hn kk
theorem tk_iinc5 {a0 a1 a2 a3 a4 b0 : Option Value} {r : List (Option Value)} {n : Int} {x : Int32} (hd : decode cc pc = .ok (.iinc 5 n, 3)) (hp : tk_p1 a4 = true) (hn : 5 < nL) (kk : tk_T y cc nL rt hh d kc ks ro cells slots Q (pc + 3) (a0 :: a1 :: a2 :: a3 :: a4 :: some (.int (x + Int32.ofInt n)) :: r) (rest) (w)) : tk_T y cc nL rt hh d kc ks ro cells slots Q (pc) (a0 :: a1 :: a2 :: a3 :: a4 :: some (.int x) :: r) (rest) (w) := tk_iinc_g (lv := a0 :: a1 :: a2 :: a3 :: a4 :: some (.int x) :: r) (i := 5) hd rfl hp hn kk
theorem tk_istore6 {a0 a1 a2 a3 a4 a5 b0 : Option Value} {r : List (Option Value)} {x : Int32} (hd : decode cc pc = .ok (.istore 6, 2)) (hp : tk_p1 a5 = true) (hn : 6 < nL) (kk : tk_T y cc nL rt hh d kc ks ro cells slots Q (pc + 2) (a0 :: a1 :: a2 :: a3 :: a4 :: a5 :: some (.int x) :: r) (rest) (w)) : tk_T y cc nL rt hh d kc ks ro cells slots Q (pc) (a0 :: a1 :: a2 :: a3 :: a4 :: a5 :: b0 :: r) (.int x :: rest) (w) := tk_istore_g (lv := a0 :: a1 :: a2 :: a3 :: a4 :: a5 :: b0 :: r) (i := 6) hd hp hn kk
theorem tk_lstore6 {a0 a1 a2 a3 a4 a5 b0 b1 : Option Value} {r : List (Option Value)} {x : Int64} (hd : decode cc pc = .ok (.lstore 6, 2)) (hp : tk_p1 a5 = true) (hn : 6 + 1 < nL) (kk : tk_T y cc nL rt hh d kc ks ro cells slots Q (pc + 2) (a0 :: a1 :: a2 :: a3 :: a4 :: a5 :: some (.long x) :: none :: r) (rest) (w)) : tk_T y cc nL rt hh d kc ks ro cells slots Q (pc) (a0 :: a1 :: a2 :: a3 :: a4 :: a5 :: b0 :: b1 :: r) (.long x :: rest) (w) := tk_lstore_g (lv := a0 :: a1 :: a2 :: a3 :: a4 :: a5 :: b0 :: b1 :: r) (i := 6) hd hp hn kk
theorem tk_astore6 {a0 a1 a2 a3 a4 a5 b0 : Option Value} {r : List (Option Value)} {x : Nat} (hd : decode cc pc = .ok (.astore 6, 2)) (hp : tk_p1 a5 = true) (hn : 6 < nL) (kk : tk_T y cc nL rt hh d kc ks ro cells slots Q (pc + 2) (a0 :: a1 :: a2 :: a3 :: a4 :: a5 :: some (.ref x) :: r) (rest) (w)) : tk_T y cc nL rt hh d kc ks ro cells slots Q (pc) (a0 :: a1 :: a2 :: a3 :: a4 :: a5 :: b0 :: r) (.ref x :: rest) (w) := tk_astore_g (lv := a0 :: a1 :: a2 :: a3 :: a4 :: a5 :: b0 :: r) (i := 6) hd hp hn kk
theorem tk_iinc6 {a0 a1 a2 a3 a4 a5 b0 : Option Value} {r : List (Option Value)} {n : Int} {x : Int32} (hd : decode cc pc = .ok (.iinc 6 n, 3)) (hp : tk_p1 a5 = true) (hn : 6 < nL) (kk : tk_T y cc nL rt hh d kc ks ro cells slots Q (pc + 3) (a0 :: a1 :: a2 :: a3 :: a4 :: a5 :: some (.int (x + Int32.ofInt n)) :: r) (rest) (w)) : tk_T y cc nL rt hh d kc ks ro cells slots Q (pc) (a0 :: a1 :: a2 :: a3 :: a4 :: a5 :: some (.int x) :: r) (rest) (w) := tk_iinc_g (lv := a0 :: a1 :: a2 :: a3 :: a4 :: a5 :: some (.int x) :: r) (i := 6) hd rfl hp hn kk
theorem tk_istore7 {a0 a1 a2 a3 a4 a5 a6 b0 : Option Value} {r : List (Option Value)} {x : Int32} (hd : decode cc pc = .ok (.istore 7, 2)) (hp : tk_p1 a6 = true) (hn : 7 < nL) (kk : tk_T y cc nL rt hh d kc ks ro cells slots Q (pc + 2) (a0 :: a1 :: a2 :: a3 :: a4 :: a5 :: a6 :: some (.int x) :: r) (rest) (w)) : tk_T y cc nL rt hh d kc ks ro cells slots Q (pc) (a0 :: a1 :: a2 :: a3 :: a4 :: a5 :: a6 :: b0 :: r) (.int x :: rest) (w) := tk_istore_g (lv := a0 :: a1 :: a2 :: a3 :: a4 :: a5 :: a6 :: b0 :: r) (i := 7) hd hp hn kk
theorem tk_lstore7 {a0 a1 a2 a3 a4 a5 a6 b0 b1 : Option Value} {r : List (Option Value)} {x : Int64} (hd : decode cc pc = .ok (.lstore 7, 2)) (hp : tk_p1 a6 = true) (hn : 7 + 1 < nL) (kk : tk_T y cc nL rt hh d kc ks ro cells slots Q (pc + 2) (a0 :: a1 :: a2 :: a3 :: a4 :: a5 :: a6 :: some (.long x) :: none :: r) (rest) (w)) : tk_T y cc nL rt hh d kc ks ro cells slots Q (pc) (a0 :: a1 :: a2 :: a3 :: a4 :: a5 :: a6 :: b0 :: b1 :: r) (.long x :: rest) (w) := tk_lstore_g (lv := a0 :: a1 :: a2 :: a3 :: a4 :: a5 :: a6 :: b0 :: b1 :: r) (i := 7) hd hp hn kk
theorem tk_astore7 {a0 a1 a2 a3 a4 a5 a6 b0 : Option Value} {r : List (Option Value)} {x : Nat} (hd : decode cc pc = .ok (.astore 7, 2)) (hp : tk_p1 a6 = true) (hn : 7 < nL) (kk : tk_T y cc nL rt hh d kc ks ro cells slots Q (pc + 2) (a0 :: a1 :: a2 :: a3 :: a4 :: a5 :: a6 :: some (.ref x) :: r) (rest) (w)) : tk_T y cc nL rt hh d kc ks ro cells slots Q (pc) (a0 :: a1 :: a2 :: a3 :: a4 :: a5 :: a6 :: b0 :: r) (.ref x :: rest) (w) := tk_astore_g (lv := a0 :: a1 :: a2 :: a3 :: a4 :: a5 :: a6 :: b0 :: r) (i := 7) hd hp hn kk
theorem tk_iinc7 {a0 a1 a2 a3 a4 a5 a6 b0 : Option Value} {r : List (Option Value)} {n : Int} {x : Int32} (hd : decode cc pc = .ok (.iinc 7 n, 3)) (hp : tk_p1 a6 = true) (hn : 7 < nL) (kk : tk_T y cc nL rt hh d kc ks ro cells slots Q (pc + 3) (a0 :: a1 :: a2 :: a3 :: a4 :: a5 :: a6 :: some (.int (x + Int32.ofInt n)) :: r) (rest) (w)) : tk_T y cc nL rt hh d kc ks ro cells slots Q (pc) (a0 :: a1 :: a2 :: a3 :: a4 :: a5 :: a6 :: some (.int x) :: r) (rest) (w) := tk_iinc_g (lv := a0 :: a1 :: a2 :: a3 :: a4 :: a5 :: a6 :: some (.int x) :: r) (i := 7) hd rfl hp hn kk
theorem tk_istore8 {a0 a1 a2 a3 a4 a5 a6 a7 b0 : Option Value} {r : List (Option Value)} {x : Int32} (hd : decode cc pc = .ok (.istore 8, 2)) (hp : tk_p1 a7 = true) (hn : 8 < nL) (kk : tk_T y cc nL rt hh d kc ks ro cells slots Q (pc + 2) (a0 :: a1 :: a2 :: a3 :: a4 :: a5 :: a6 :: a7 :: some (.int x) :: r) (rest) (w)) : tk_T y cc nL rt hh d kc ks ro cells slots Q (pc) (a0 :: a1 :: a2 :: a3 :: a4 :: a5 :: a6 :: a7 :: b0 :: r) (.int x :: rest) (w) := tk_istore_g (lv := a0 :: a1 :: a2 :: a3 :: a4 :: a5 :: a6 :: a7 :: b0 :: r) (i := 8) hd hp hn kk
theorem tk_lstore8 {a0 a1 a2 a3 a4 a5 a6 a7 b0 b1 : Option Value} {r : List (Option Value)} {x : Int64} (hd : decode cc pc = .ok (.lstore 8, 2)) (hp : tk_p1 a7 = true) (hn : 8 + 1 < nL) (kk : tk_T y cc nL rt hh d kc ks ro cells slots Q (pc + 2) (a0 :: a1 :: a2 :: a3 :: a4 :: a5 :: a6 :: a7 :: some (.long x) :: none :: r) (rest) (w)) : tk_T y cc nL rt hh d kc ks ro cells slots Q (pc) (a0 :: a1 :: a2 :: a3 :: a4 :: a5 :: a6 :: a7 :: b0 :: b1 :: r) (.long x :: rest) (w) := tk_lstore_g (lv := a0 :: a1 :: a2 :: a3 :: a4 :: a5 :: a6 :: a7 :: b0 :: b1 :: r) (i := 8) hd hp hn kk
theorem tk_astore8 {a0 a1 a2 a3 a4 a5 a6 a7 b0 : Option Value} {r : List (Option Value)} {x : Nat} (hd : decode cc pc = .ok (.astore 8, 2)) (hp : tk_p1 a7 = true) (hn : 8 < nL) (kk : tk_T y cc nL rt hh d kc ks ro cells slots Q (pc + 2) (a0 :: a1 :: a2 :: a3 :: a4 :: a5 :: a6 :: a7 :: some (.ref x) :: r) (rest) (w)) : tk_T y cc nL rt hh d kc ks ro cells slots Q (pc) (a0 :: a1 :: a2 :: a3 :: a4 :: a5 :: a6 :: a7 :: b0 :: r) (.ref x :: rest) (w) := tk_astore_g (lv := a0 :: a1 :: a2 :: a3 :: a4 :: a5 :: a6 :: a7 :: b0 :: r) (i := 8) hd hp hn kk
theorem tk_iinc8 {a0 a1 a2 a3 a4 a5 a6 a7 b0 : Option Value} {r : List (Option Value)} {n : Int} {x : Int32} (hd : decode cc pc = .ok (.iinc 8 n, 3)) (hp : tk_p1 a7 = true) (hn : 8 < nL) (kk : tk_T y cc nL rt hh d kc ks ro cells slots Q (pc + 3) (a0 :: a1 :: a2 :: a3 :: a4 :: a5 :: a6 :: a7 :: some (.int (x + Int32.ofInt n)) :: r) (rest) (w)) : tk_T y cc nL rt hh d kc ks ro cells slots Q (pc) (a0 :: a1 :: a2 :: a3 :: a4 :: a5 :: a6 :: a7 :: some (.int x) :: r) (rest) (w) := tk_iinc_g (lv := a0 :: a1 :: a2 :: a3 :: a4 :: a5 :: a6 :: a7 :: some (.int x) :: r) (i := 8) hd rfl hp hn kk
theorem tk_istore9 {a0 a1 a2 a3 a4 a5 a6 a7 a8 b0 : Option Value} {r : List (Option Value)} {x : Int32} (hd : decode cc pc = .ok (.istore 9, 2)) (hp : tk_p1 a8 = true) (hn : 9 < nL) (kk : tk_T y cc nL rt hh d kc ks ro cells slots Q (pc + 2) (a0 :: a1 :: a2 :: a3 :: a4 :: a5 :: a6 :: a7 :: a8 :: some (.int x) :: r) (rest) (w)) : tk_T y cc nL rt hh d kc ks ro cells slots Q (pc) (a0 :: a1 :: a2 :: a3 :: a4 :: a5 :: a6 :: a7 :: a8 :: b0 :: r) (.int x :: rest) (w) := tk_istore_g (lv := a0 :: a1 :: a2 :: a3 :: a4 :: a5 :: a6 :: a7 :: a8 :: b0 :: r) (i := 9) hd hp hn kk
theorem tk_lstore9 {a0 a1 a2 a3 a4 a5 a6 a7 a8 b0 b1 : Option Value} {r : List (Option Value)} {x : Int64} (hd : decode cc pc = .ok (.lstore 9, 2)) (hp : tk_p1 a8 = true) (hn : 9 + 1 < nL) (kk : tk_T y cc nL rt hh d kc ks ro cells slots Q (pc + 2) (a0 :: a1 :: a2 :: a3 :: a4 :: a5 :: a6 :: a7 :: a8 :: some (.long x) :: none :: r) (rest) (w)) : tk_T y cc nL rt hh d kc ks ro cells slots Q (pc) (a0 :: a1 :: a2 :: a3 :: a4 :: a5 :: a6 :: a7 :: a8 :: b0 :: b1 :: r) (.long x :: rest) (w) := tk_lstore_g (lv := a0 :: a1 :: a2 :: a3 :: a4 :: a5 :: a6 :: a7 :: a8 :: b0 :: b1 :: r) (i := 9) hd hp hn kk
theorem tk_astore9 {a0 a1 a2 a3 a4 a5 a6 a7 a8 b0 : Option Value} {r : List (Option Value)} {x : Nat} (hd : decode cc pc = .ok (.astore 9, 2)) (hp : tk_p1 a8 = true) (hn : 9 < nL) (kk : tk_T y cc nL rt hh d kc ks ro cells slots Q (pc + 2) (a0 :: a1 :: a2 :: a3 :: a4 :: a5 :: a6 :: a7 :: a8 :: some (.ref x) :: r) (rest) (w)) : tk_T y cc nL rt hh d kc ks ro cells slots Q (pc) (a0 :: a1 :: a2 :: a3 :: a4 :: a5 :: a6 :: a7 :: a8 :: b0 :: r) (.ref x :: rest) (w) := tk_astore_g (lv := a0 :: a1 :: a2 :: a3 :: a4 :: a5 :: a6 :: a7 :: a8 :: b0 :: r) (i := 9) hd hp hn kk
theorem tk_iinc9 {a0 a1 a2 a3 a4 a5 a6 a7 a8 b0 : Option Value} {r : List (Option Value)} {n : Int} {x : Int32} (hd : decode cc pc = .ok (.iinc 9 n, 3)) (hp : tk_p1 a8 = true) (hn : 9 < nL) (kk : tk_T y cc nL rt hh d kc ks ro cells slots Q (pc + 3) (a0 :: a1 :: a2 :: a3 :: a4 :: a5 :: a6 :: a7 :: a8 :: some (.int (x + Int32.ofInt n)) :: r) (rest) (w)) : tk_T y cc nL rt hh d kc ks ro cells slots Q (pc) (a0 :: a1 :: a2 :: a3 :: a4 :: a5 :: a6 :: a7 :: a8 :: some (.int x) :: r) (rest) (w) := tk_iinc_g (lv := a0 :: a1 :: a2 :: a3 :: a4 :: a5 :: a6 :: a7 :: a8 :: some (.int x) :: r) (i := 9) hd rfl hp hn kk
theorem tk_istore10 {a0 a1 a2 a3 a4 a5 a6 a7 a8 a9 b0 : Option Value} {r : List (Option Value)} {x : Int32} (hd : decode cc pc = .ok (.istore 10, 2)) (hp : tk_p1 a9 = true) (hn : 10 < nL) (kk : tk_T y cc nL rt hh d kc ks ro cells slots Q (pc + 2) (a0 :: a1 :: a2 :: a3 :: a4 :: a5 :: a6 :: a7 :: a8 :: a9 :: some (.int x) :: r) (rest) (w)) : tk_T y cc nL rt hh d kc ks ro cells slots Q (pc) (a0 :: a1 :: a2 :: a3 :: a4 :: a5 :: a6 :: a7 :: a8 :: a9 :: b0 :: r) (.int x :: rest) (w) := tk_istore_g (lv := a0 :: a1 :: a2 :: a3 :: a4 :: a5 :: a6 :: a7 :: a8 :: a9 :: b0 :: r) (i := 10) hd hp hn kk
theorem tk_lstore10 {a0 a1 a2 a3 a4 a5 a6 a7 a8 a9 b0 b1 : Option Value} {r : List (Option Value)} {x : Int64} (hd : decode cc pc = .ok (.lstore 10, 2)) (hp : tk_p1 a9 = true) (hn : 10 + 1 < nL) (kk : tk_T y cc nL rt hh d kc ks ro cells slots Q (pc + 2) (a0 :: a1 :: a2 :: a3 :: a4 :: a5 :: a6 :: a7 :: a8 :: a9 :: some (.long x) :: none :: r) (rest) (w)) : tk_T y cc nL rt hh d kc ks ro cells slots Q (pc) (a0 :: a1 :: a2 :: a3 :: a4 :: a5 :: a6 :: a7 :: a8 :: a9 :: b0 :: b1 :: r) (.long x :: rest) (w) := tk_lstore_g (lv := a0 :: a1 :: a2 :: a3 :: a4 :: a5 :: a6 :: a7 :: a8 :: a9 :: b0 :: b1 :: r) (i := 10) hd hp hn kk
theorem tk_astore10 {a0 a1 a2 a3 a4 a5 a6 a7 a8 a9 b0 : Option Value} {r : List (Option Value)} {x : Nat} (hd : decode cc pc = .ok (.astore 10, 2)) (hp : tk_p1 a9 = true) (hn : 10 < nL) (kk : tk_T y cc nL rt hh d kc ks ro cells slots Q (pc + 2) (a0 :: a1 :: a2 :: a3 :: a4 :: a5 :: a6 :: a7 :: a8 :: a9 :: some (.ref x) :: r) (rest) (w)) : tk_T y cc nL rt hh d kc ks ro cells slots Q (pc) (a0 :: a1 :: a2 :: a3 :: a4 :: a5 :: a6 :: a7 :: a8 :: a9 :: b0 :: r) (.ref x :: rest) (w) := tk_astore_g (lv := a0 :: a1 :: a2 :: a3 :: a4 :: a5 :: a6 :: a7 :: a8 :: a9 :: b0 :: r) (i := 10) hd hp hn kk
theorem tk_iinc10 {a0 a1 a2 a3 a4 a5 a6 a7 a8 a9 b0 : Option Value} {r : List (Option Value)} {n : Int} {x : Int32} (hd : decode cc pc = .ok (.iinc 10 n, 3)) (hp : tk_p1 a9 = true) (hn : 10 < nL) (kk : tk_T y cc nL rt hh d kc ks ro cells slots Q (pc + 3) (a0 :: a1 :: a2 :: a3 :: a4 :: a5 :: a6 :: a7 :: a8 :: a9 :: some (.int (x + Int32.ofInt n)) :: r) (rest) (w)) : tk_T y cc nL rt hh d kc ks ro cells slots Q (pc) (a0 :: a1 :: a2 :: a3 :: a4 :: a5 :: a6 :: a7 :: a8 :: a9 :: some (.int x) :: r) (rest) (w) := tk_iinc_g (lv := a0 :: a1 :: a2 :: a3 :: a4 :: a5 :: a6 :: a7 :: a8 :: a9 :: some (.int x) :: r) (i := 10) hd rfl hp hn kk
theorem tk_istore11 {a0 a1 a2 a3 a4 a5 a6 a7 a8 a9 a10 b0 : Option Value} {r : List (Option Value)} {x : Int32} (hd : decode cc pc = .ok (.istore 11, 2)) (hp : tk_p1 a10 = true) (hn : 11 < nL) (kk : tk_T y cc nL rt hh d kc ks ro cells slots Q (pc + 2) (a0 :: a1 :: a2 :: a3 :: a4 :: a5 :: a6 :: a7 :: a8 :: a9 :: a10 :: some (.int x) :: r) (rest) (w)) : tk_T y cc nL rt hh d kc ks ro cells slots Q (pc) (a0 :: a1 :: a2 :: a3 :: a4 :: a5 :: a6 :: a7 :: a8 :: a9 :: a10 :: b0 :: r) (.int x :: rest) (w) := tk_istore_g (lv := a0 :: a1 :: a2 :: a3 :: a4 :: a5 :: a6 :: a7 :: a8 :: a9 :: a10 :: b0 :: r) (i := 11) hd hp hn kk
theorem tk_lstore11 {a0 a1 a2 a3 a4 a5 a6 a7 a8 a9 a10 b0 b1 : Option Value} {r : List (Option Value)} {x : Int64} (hd : decode cc pc = .ok (.lstore 11, 2)) (hp : tk_p1 a10 = true) (hn : 11 + 1 < nL) (kk : tk_T y cc nL rt hh d kc ks ro cells slots Q (pc + 2) (a0 :: a1 :: a2 :: a3 :: a4 :: a5 :: a6 :: a7 :: a8 :: a9 :: a10 :: some (.long x) :: none :: r) (rest) (w)) : tk_T y cc nL rt hh d kc ks ro cells slots Q (pc) (a0 :: a1 :: a2 :: a3 :: a4 :: a5 :: a6 :: a7 :: a8 :: a9 :: a10 :: b0 :: b1 :: r) (.long x :: rest) (w) := tk_lstore_g (lv := a0 :: a1 :: a2 :: a3 :: a4 :: a5 :: a6 :: a7 :: a8 :: a9 :: a10 :: b0 :: b1 :: r) (i := 11) hd hp hn kk
theorem tk_astore11 {a0 a1 a2 a3 a4 a5 a6 a7 a8 a9 a10 b0 : Option Value} {r : List (Option Value)} {x : Nat} (hd : decode cc pc = .ok (.astore 11, 2)) (hp : tk_p1 a10 = true) (hn : 11 < nL) (kk : tk_T y cc nL rt hh d kc ks ro cells slots Q (pc + 2) (a0 :: a1 :: a2 :: a3 :: a4 :: a5 :: a6 :: a7 :: a8 :: a9 :: a10 :: some (.ref x) :: r) (rest) (w)) : tk_T y cc nL rt hh d kc ks ro cells slots Q (pc) (a0 :: a1 :: a2 :: a3 :: a4 :: a5 :: a6 :: a7 :: a8 :: a9 :: a10 :: b0 :: r) (.ref x :: rest) (w) := tk_astore_g (lv := a0 :: a1 :: a2 :: a3 :: a4 :: a5 :: a6 :: a7 :: a8 :: a9 :: a10 :: b0 :: r) (i := 11) hd hp hn kk
theorem tk_iinc11 {a0 a1 a2 a3 a4 a5 a6 a7 a8 a9 a10 b0 : Option Value} {r : List (Option Value)} {n : Int} {x : Int32} (hd : decode cc pc = .ok (.iinc 11 n, 3)) (hp : tk_p1 a10 = true) (hn : 11 < nL) (kk : tk_T y cc nL rt hh d kc ks ro cells slots Q (pc + 3) (a0 :: a1 :: a2 :: a3 :: a4 :: a5 :: a6 :: a7 :: a8 :: a9 :: a10 :: some (.int (x + Int32.ofInt n)) :: r) (rest) (w)) : tk_T y cc nL rt hh d kc ks ro cells slots Q (pc) (a0 :: a1 :: a2 :: a3 :: a4 :: a5 :: a6 :: a7 :: a8 :: a9 :: a10 :: some (.int x) :: r) (rest) (w) := tk_iinc_g (lv := a0 :: a1 :: a2 :: a3 :: a4 :: a5 :: a6 :: a7 :: a8 :: a9 :: a10 :: some (.int x) :: r) (i := 11) hd rfl hp hn kk
theorem tk_istore12 {a0 a1 a2 a3 a4 a5 a6 a7 a8 a9 a10 a11 b0 : Option Value} {r : List (Option Value)} {x : Int32} (hd : decode cc pc = .ok (.istore 12, 2)) (hp : tk_p1 a11 = true) (hn : 12 < nL) (kk : tk_T y cc nL rt hh d kc ks ro cells slots Q (pc + 2) (a0 :: a1 :: a2 :: a3 :: a4 :: a5 :: a6 :: a7 :: a8 :: a9 :: a10 :: a11 :: some (.int x) :: r) (rest) (w)) : tk_T y cc nL rt hh d kc ks ro cells slots Q (pc) (a0 :: a1 :: a2 :: a3 :: a4 :: a5 :: a6 :: a7 :: a8 :: a9 :: a10 :: a11 :: b0 :: r) (.int x :: rest) (w) := tk_istore_g (lv := a0 :: a1 :: a2 :: a3 :: a4 :: a5 :: a6 :: a7 :: a8 :: a9 :: a10 :: a11 :: b0 :: r) (i := 12) hd hp hn kk
theorem tk_lstore12 {a0 a1 a2 a3 a4 a5 a6 a7 a8 a9 a10 a11 b0 b1 : Option Value} {r : List (Option Value)} {x : Int64} (hd : decode cc pc = .ok (.lstore 12, 2)) (hp : tk_p1 a11 = true) (hn : 12 + 1 < nL) (kk : tk_T y cc nL rt hh d kc ks ro cells slots Q (pc + 2) (a0 :: a1 :: a2 :: a3 :: a4 :: a5 :: a6 :: a7 :: a8 :: a9 :: a10 :: a11 :: some (.long x) :: none :: r) (rest) (w)) : tk_T y cc nL rt hh d kc ks ro cells slots Q (pc) (a0 :: a1 :: a2 :: a3 :: a4 :: a5 :: a6 :: a7 :: a8 :: a9 :: a10 :: a11 :: b0 :: b1 :: r) (.long x :: rest) (w) := tk_lstore_g (lv := a0 :: a1 :: a2 :: a3 :: a4 :: a5 :: a6 :: a7 :: a8 :: a9 :: a10 :: a11 :: b0 :: b1 :: r) (i := 12) hd hp hn kk
theorem tk_astore12 {a0 a1 a2 a3 a4 a5 a6 a7 a8 a9 a10 a11 b0 : Option Value} {r : List (Option Value)} {x : Nat} (hd : decode cc pc = .ok (.astore 12, 2)) (hp : tk_p1 a11 = true) (hn : 12 < nL) (kk : tk_T y cc nL rt hh d kc ks ro cells slots Q (pc + 2) (a0 :: a1 :: a2 :: a3 :: a4 :: a5 :: a6 :: a7 :: a8 :: a9 :: a10 :: a11 :: some (.ref x) :: r) (rest) (w)) : tk_T y cc nL rt hh d kc ks ro cells slots Q (pc) (a0 :: a1 :: a2 :: a3 :: a4 :: a5 :: a6 :: a7 :: a8 :: a9 :: a10 :: a11 :: b0 :: r) (.ref x :: rest) (w) := tk_astore_g (lv := a0 :: a1 :: a2 :: a3 :: a4 :: a5 :: a6 :: a7 :: a8 :: a9 :: a10 :: a11 :: b0 :: r) (i := 12) hd hp hn kk
theorem tk_iinc12 {a0 a1 a2 a3 a4 a5 a6 a7 a8 a9 a10 a11 b0 : Option Value} {r : List (Option Value)} {n : Int} {x : Int32} (hd : decode cc pc = .ok (.iinc 12 n, 3)) (hp : tk_p1 a11 = true) (hn : 12 < nL) (kk : tk_T y cc nL rt hh d kc ks ro cells slots Q (pc + 3) (a0 :: a1 :: a2 :: a3 :: a4 :: a5 :: a6 :: a7 :: a8 :: a9 :: a10 :: a11 :: some (.int (x + Int32.ofInt n)) :: r) (rest) (w)) : tk_T y cc nL rt hh d kc ks ro cells slots Q (pc) (a0 :: a1 :: a2 :: a3 :: a4 :: a5 :: a6 :: a7 :: a8 :: a9 :: a10 :: a11 :: some (.int x) :: r) (rest) (w) := tk_iinc_g (lv := a0 :: a1 :: a2 :: a3 :: a4 :: a5 :: a6 :: a7 :: a8 :: a9 :: a10 :: a11 :: some (.int x) :: r) (i := 12) hd rfl hp hn kk
theorem tk_istore13 {a0 a1 a2 a3 a4 a5 a6 a7 a8 a9 a10 a11 a12 b0 : Option Value} {r : List (Option Value)} {x : Int32} (hd : decode cc pc = .ok (.istore 13, 2)) (hp : tk_p1 a12 = true) (hn : 13 < nL) (kk : tk_T y cc nL rt hh d kc ks ro cells slots Q (pc + 2) (a0 :: a1 :: a2 :: a3 :: a4 :: a5 :: a6 :: a7 :: a8 :: a9 :: a10 :: a11 :: a12 :: some (.int x) :: r) (rest) (w)) : tk_T y cc nL rt hh d kc ks ro cells slots Q (pc) (a0 :: a1 :: a2 :: a3 :: a4 :: a5 :: a6 :: a7 :: a8 :: a9 :: a10 :: a11 :: a12 :: b0 :: r) (.int x :: rest) (w) := tk_istore_g (lv := a0 :: a1 :: a2 :: a3 :: a4 :: a5 :: a6 :: a7 :: a8 :: a9 :: a10 :: a11 :: a12 :: b0 :: r) (i := 13) hd hp hn kk
theorem tk_lstore13 {a0 a1 a2 a3 a4 a5 a6 a7 a8 a9 a10 a11 a12 b0 b1 : Option Value} {r : List (Option Value)} {x : Int64} (hd : decode cc pc = .ok (.lstore 13, 2)) (hp : tk_p1 a12 = true) (hn : 13 + 1 < nL) (kk : tk_T y cc nL rt hh d kc ks ro cells slots Q (pc + 2) (a0 :: a1 :: a2 :: a3 :: a4 :: a5 :: a6 :: a7 :: a8 :: a9 :: a10 :: a11 :: a12 :: some (.long x) :: none :: r) (rest) (w)) : tk_T y cc nL rt hh d kc ks ro cells slots Q (pc) (a0 :: a1 :: a2 :: a3 :: a4 :: a5 :: a6 :: a7 :: a8 :: a9 :: a10 :: a11 :: a12 :: b0 :: b1 :: r) (.long x :: rest) (w) := tk_lstore_g (lv := a0 :: a1 :: a2 :: a3 :: a4 :: a5 :: a6 :: a7 :: a8 :: a9 :: a10 :: a11 :: a12 :: b0 :: b1 :: r) (i := 13) hd hp hn kk
theorem tk_astore13 {a0 a1 a2 a3 a4 a5 a6 a7 a8 a9 a10 a11 a12 b0 : Option Value} {r : List (Option Value)} {x : Nat} (hd : decode cc pc = .ok (.astore 13, 2)) (hp : tk_p1 a12 = true) (hn : 13 < nL) (kk : tk_T y cc nL rt hh d kc ks ro cells slots Q (pc + 2) (a0 :: a1 :: a2 :: a3 :: a4 :: a5 :: a6 :: a7 :: a8 :: a9 :: a10 :: a11 :: a12 :: some (.ref x) :: r) (rest) (w)) : tk_T y cc nL rt hh d kc ks ro cells slots Q (pc) (a0 :: a1 :: a2 :: a3 :: a4 :: a5 :: a6 :: a7 :: a8 :: a9 :: a10 :: a11 :: a12 :: b0 :: r) (.ref x :: rest) (w) := tk_astore_g (lv := a0 :: a1 :: a2 :: a3 :: a4 :: a5 :: a6 :: a7 :: a8 :: a9 :: a10 :: a11 :: a12 :: b0 :: r) (i := 13) hd hp hn kk
theorem tk_iinc13 {a0 a1 a2 a3 a4 a5 a6 a7 a8 a9 a10 a11 a12 b0 : Option Value} {r : List (Option Value)} {n : Int} {x : Int32} (hd : decode cc pc = .ok (.iinc 13 n, 3)) (hp : tk_p1 a12 = true) (hn : 13 < nL) (kk : tk_T y cc nL rt hh d kc ks ro cells slots Q (pc + 3) (a0 :: a1 :: a2 :: a3 :: a4 :: a5 :: a6 :: a7 :: a8 :: a9 :: a10 :: a11 :: a12 :: some (.int (x + Int32.ofInt n)) :: r) (rest) (w)) : tk_T y cc nL rt hh d kc ks ro cells slots Q (pc) (a0 :: a1 :: a2 :: a3 :: a4 :: a5 :: a6 :: a7 :: a8 :: a9 :: a10 :: a11 :: a12 :: some (.int x) :: r) (rest) (w) := tk_iinc_g (lv := a0 :: a1 :: a2 :: a3 :: a4 :: a5 :: a6 :: a7 :: a8 :: a9 :: a10 :: a11 :: a12 :: some (.int x) :: r) (i := 13) hd rfl hp hn kk
theorem tk_istore14 {a0 a1 a2 a3 a4 a5 a6 a7 a8 a9 a10 a11 a12 a13 b0 : Option Value} {r : List (Option Value)} {x : Int32} (hd : decode cc pc = .ok (.istore 14, 2)) (hp : tk_p1 a13 = true) (hn : 14 < nL) (kk : tk_T y cc nL rt hh d kc ks ro cells slots Q (pc + 2) (a0 :: a1 :: a2 :: a3 :: a4 :: a5 :: a6 :: a7 :: a8 :: a9 :: a10 :: a11 :: a12 :: a13 :: some (.int x) :: r) (rest) (w)) : tk_T y cc nL rt hh d kc ks ro cells slots Q (pc) (a0 :: a1 :: a2 :: a3 :: a4 :: a5 :: a6 :: a7 :: a8 :: a9 :: a10 :: a11 :: a12 :: a13 :: b0 :: r) (.int x :: rest) (w) := tk_istore_g (lv := a0 :: a1 :: a2 :: a3 :: a4 :: a5 :: a6 :: a7 :: a8 :: a9 :: a10 :: a11 :: a12 :: a13 :: b0 :: r) (i := 14) hd hp hn kk
theorem tk_lstore14 {a0 a1 a2 a3 a4 a5 a6 a7 a8 a9 a10 a11 a12 a13 b0 b1 : Option Value} {r : List (Option Value)} {x : Int64} (hd : decode cc pc = .ok (.lstore 14, 2)) (hp : tk_p1 a13 = true) (hn : 14 + 1 < nL) (kk : tk_T y cc nL rt hh d kc ks ro cells slots Q (pc + 2) (a0 :: a1 :: a2 :: a3 :: a4 :: a5 :: a6 :: a7 :: a8 :: a9 :: a10 :: a11 :: a12 :: a13 :: some (.long x) :: none :: r) (rest) (w)) : tk_T y cc nL rt hh d kc ks ro cells slots Q (pc) (a0 :: a1 :: a2 :: a3 :: a4 :: a5 :: a6 :: a7 :: a8 :: a9 :: a10 :: a11 :: a12 :: a13 :: b0 :: b1 :: r) (.long x :: rest) (w) := tk_lstore_g (lv := a0 :: a1 :: a2 :: a3 :: a4 :: a5 :: a6 :: a7 :: a8 :: a9 :: a10 :: a11 :: a12 :: a13 :: b0 :: b1 :: r) (i := 14) hd hp hn kk
theorem tk_astore14 {a0 a1 a2 a3 a4 a5 a6 a7 a8 a9 a10 a11 a12 a13 b0 : Option Value} {r : List (Option Value)} {x : Nat} (hd : decode cc pc = .ok (.astore 14, 2)) (hp : tk_p1 a13 = true) (hn : 14 < nL) (kk : tk_T y cc nL rt hh d kc ks ro cells slots Q (pc + 2) (a0 :: a1 :: a2 :: a3 :: a4 :: a5 :: a6 :: a7 :: a8 :: a9 :: a10 :: a11 :: a12 :: a13 :: some (.ref x) :: r) (rest) (w)) : tk_T y cc nL rt hh d kc ks ro cells slots Q (pc) (a0 :: a1 :: a2 :: a3 :: a4 :: a5 :: a6 :: a7 :: a8 :: a9 :: a10 :: a11 :: a12 :: a13 :: b0 :: r) (.ref x :: rest) (w) := tk_astore_g (lv := a0 :: a1 :: a2 :: a3 :: a4 :: a5 :: a6 :: a7 :: a8 :: a9 :: a10 :: a11 :: a12 :: a13 :: b0 :: r) (i := 14) hd hp hn kk
theorem tk_iinc14 {a0 a1 a2 a3 a4 a5 a6 a7 a8 a9 a10 a11 a12 a13 b0 : Option Value} {r : List (Option Value)} {n : Int} {x : Int32} (hd : decode cc pc = .ok (.iinc 14 n, 3)) (hp : tk_p1 a13 = true) (hn : 14 < nL) (kk : tk_T y cc nL rt hh d kc ks ro cells slots Q (pc + 3) (a0 :: a1 :: a2 :: a3 :: a4 :: a5 :: a6 :: a7 :: a8 :: a9 :: a10 :: a11 :: a12 :: a13 :: some (.int (x + Int32.ofInt n)) :: r) (rest) (w)) : tk_T y cc nL rt hh d kc ks ro cells slots Q (pc) (a0 :: a1 :: a2 :: a3 :: a4 :: a5 :: a6 :: a7 :: a8 :: a9 :: a10 :: a11 :: a12 :: a13 :: some (.int x) :: r) (rest) (w) := tk_iinc_g (lv := a0 :: a1 :: a2 :: a3 :: a4 :: a5 :: a6 :: a7 :: a8 :: a9 :: a10 :: a11 :: a12 :: a13 :: some (.int x) :: r) (i := 14) hd rfl hp hn kk
theorem tk_istore15 {a0 a1 a2 a3 a4 a5 a6 a7 a8 a9 a10 a11 a12 a13 a14 b0 : Option Value} {r : List (Option Value)} {x : Int32} (hd : decode cc pc = .ok (.istore 15, 2)) (hp : tk_p1 a14 = true) (hn : 15 < nL) (kk : tk_T y cc nL rt hh d kc ks ro cells slots Q (pc + 2) (a0 :: a1 :: a2 :: a3 :: a4 :: a5 :: a6 :: a7 :: a8 :: a9 :: a10 :: a11 :: a12 :: a13 :: a14 :: some (.int x) :: r) (rest) (w)) : tk_T y cc nL rt hh d kc ks ro cells slots Q (pc) (a0 :: a1 :: a2 :: a3 :: a4 :: a5 :: a6 :: a7 :: a8 :: a9 :: a10 :: a11 :: a12 :: a13 :: a14 :: b0 :: r) (.int x :: rest) (w) := tk_istore_g (lv := a0 :: a1 :: a2 :: a3 :: a4 :: a5 :: a6 :: a7 :: a8 :: a9 :: a10 :: a11 :: a12 :: a13 :: a14 :: b0 :: r) (i := 15) hd hp hn kk
theorem tk_lstore15 {a0 a1 a2 a3 a4 a5 a6 a7 a8 a9 a10 a11 a12 a13 a14 b0 b1 : Option Value} {r : List (Option Value)} {x : Int64} (hd : decode cc pc = .ok (.lstore 15, 2)) (hp : tk_p1 a14 = true) (hn : 15 + 1 < nL) (kk : tk_T y cc nL rt hh d kc ks ro cells slots Q (pc + 2) (a0 :: a1 :: a2 :: a3 :: a4 :: a5 :: a6 :: a7 :: a8 :: a9 :: a10 :: a11 :: a12 :: a13 :: a14 :: some (.long x) :: none :: r) (rest) (w)) : tk_T y cc nL rt hh d kc ks ro cells slots Q (pc) (a0 :: a1 :: a2 :: a3 :: a4 :: a5 :: a6 :: a7 :: a8 :: a9 :: a10 :: a11 :: a12 :: a13 :: a14 :: b0 :: b1 :: r) (.long x :: rest) (w) := tk_lstore_g (lv := a0 :: a1 :: a2 :: a3 :: a4 :: a5 :: a6 :: a7 :: a8 :: a9 :: a10 :: a11 :: a12 :: a13 :: a14 :: b0 :: b1 :: r) (i := 15) hd hp hn kk
theorem tk_astore15 {a0 a1 a2 a3 a4 a5 a6 a7 a8 a9 a10 a11 a12 a13 a14 b0 : Option Value} {r : List (Option Value)} {x : Nat} (hd : decode cc pc = .ok (.astore 15, 2)) (hp : tk_p1 a14 = true) (hn : 15 < nL) (kk : tk_T y cc nL rt hh d kc ks ro cells slots Q (pc + 2) (a0 :: a1 :: a2 :: a3 :: a4 :: a5 :: a6 :: a7 :: a8 :: a9 :: a10 :: a11 :: a12 :: a13 :: a14 :: some (.ref x) :: r) (rest) (w)) : tk_T y cc nL rt hh d kc ks ro cells slots Q (pc) (a0 :: a1 :: a2 :: a3 :: a4 :: a5 :: a6 :: a7 :: a8 :: a9 :: a10 :: a11 :: a12 :: a13 :: a14 :: b0 :: r) (.ref x :: rest) (w) := tk_astore_g (lv := a0 :: a1 :: a2 :: a3 :: a4 :: a5 :: a6 :: a7 :: a8 :: a9 :: a10 :: a11 :: a12 :: a13 :: a14 :: b0 :: r) (i := 15) hd hp hn kk
theorem tk_iinc15 {a0 a1 a2 a3 a4 a5 a6 a7 a8 a9 a10 a11 a12 a13 a14 b0 : Option Value} {r : List (Option Value)} {n : Int} {x : Int32} (hd : decode cc pc = .ok (.iinc 15 n, 3)) (hp : tk_p1 a14 = true) (hn : 15 < nL) (kk : tk_T y cc nL rt hh d kc ks ro cells slots Q (pc + 3) (a0 :: a1 :: a2 :: a3 :: a4 :: a5 :: a6 :: a7 :: a8 :: a9 :: a10 :: a11 :: a12 :: a13 :: a14 :: some (.int (x + Int32.ofInt n)) :: r) (rest) (w)) : tk_T y cc nL rt hh d kc ks ro cells slots Q (pc) (a0 :: a1 :: a2 :: a3 :: a4 :: a5 :: a6 :: a7 :: a8 :: a9 :: a10 :: a11 :: a12 :: a13 :: a14 :: some (.int x) :: r) (rest) (w) := tk_iinc_g (lv := a0 :: a1 :: a2 :: a3 :: a4 :: a5 :: a6 :: a7 :: a8 :: a9 :: a10 :: a11 :: a12 :: a13 :: a14 :: some (.int x) :: r) (i := 15) hd rfl hp hn kk
theorem tk_if_eq {x : Int32} {off : Int} {tgt : Nat} (hd : decode cc pc = .ok (.ifCond .eq off, 3)) (ht : (pc : Int) + off = (tgt : Int)) (kt : x = 0 → tk_T y cc nL rt hh d kc ks ro cells slots Q (tgt) (lv) (rest) (w)) (kf : ¬ x = 0 → tk_T y cc nL rt hh d kc ks ro cells slots Q (pc + 3) (lv) (rest) (w)) : tk_T y cc nL rt hh d kc ks ro cells slots Q (pc) (lv) (.int x :: rest) (w) := by
  intro p l e s m args below meth c D dA A ad0 n0 I ad H locs ls g1 g2 g3 g4 g5 g6 g7
  exact lv_if_eq I.1 I.2.1 hd ht (fun h => kt h p l e s m args below meth c D dA A ad0 n0 I ad H locs ls g1 g2 g3 g4 g5 g6 g7) (fun h => kf h p l e s m args below meth c D dA A ad0 n0 I ad H locs ls g1 g2 g3 g4 g5 g6 g7)
theorem tk_if_ne {x : Int32} {off : Int} {tgt : Nat} (hd : decode cc pc = .ok (.ifCond .ne off, 3)) (ht : (pc : Int) + off = (tgt : Int)) (kt : ¬ x = 0 → tk_T y cc nL rt hh d kc ks ro cells slots Q (tgt) (lv) (rest) (w)) (kf : x = 0 → tk_T y cc nL rt hh d kc ks ro cells slots Q (pc + 3) (lv) (rest) (w)) : tk_T y cc nL rt hh d kc ks ro cells slots Q (pc) (lv) (.int x :: rest) (w) := by
  intro p l e s m args below meth c D dA A ad0 n0 I ad H locs ls g1 g2 g3 g4 g5 g6 g7
  exact lv_if_ne I.1 I.2.1 hd ht (fun h => kt h p l e s m args below meth c D dA A ad0 n0 I ad H locs ls g1 g2 g3 g4 g5 g6 g7) (fun h => kf h p l e s m args below meth c D dA A ad0 n0 I ad H locs ls g1 g2 g3 g4 g5 g6 g7)
theorem tk_if_lt {x : Int32} {off : Int} {tgt : Nat} (hd : decode cc pc = .ok (.ifCond .lt off, 3)) (ht : (pc : Int) + off = (tgt : Int)) (kt : x < 0 → tk_T y cc nL rt hh d kc ks ro cells slots Q (tgt) (lv) (rest) (w)) (kf : ¬ x < 0 → tk_T y cc nL rt hh d kc ks ro cells slots Q (pc + 3) (lv) (rest) (w)) : tk_T y cc nL rt hh d kc ks ro cells slots Q (pc) (lv) (.int x :: rest) (w) := by
  intro p l e s m args below meth c D dA A ad0 n0 I ad H locs ls g1 g2 g3 g4 g5 g6 g7
  exact lv_if_lt I.1 I.2.1 hd ht (fun h => kt h p l e s m args below meth c D dA A ad0 n0 I ad H locs ls g1 g2 g3 g4 g5 g6 g7) (fun h => kf h p l e s m args below meth c D dA A ad0 n0 I ad H locs ls g1 g2 g3 g4 g5 g6 g7)
theorem tk_if_ge {x : Int32} {off : Int} {tgt : Nat} (hd : decode cc pc = .ok (.ifCond .ge off, 3)) (ht : (pc : Int) + off = (tgt : Int)) (kt : 0 ≤ x → tk_T y cc nL rt hh d kc ks ro cells slots Q (tgt) (lv) (rest) (w)) (kf : ¬ 0 ≤ x → tk_T y cc nL rt hh d kc ks ro cells slots Q (pc + 3) (lv) (rest) (w)) : tk_T y cc nL rt hh d kc ks ro cells slots Q (pc) (lv) (.int x :: rest) (w) := by
  intro p l e s m args below meth c D dA A ad0 n0 I ad H locs ls g1 g2 g3 g4 g5 g6 g7
  exact lv_if_ge I.1 I.2.1 hd ht (fun h => kt h p l e s m args below meth c D dA A ad0 n0 I ad H locs ls g1 g2 g3 g4 g5 g6 g7) (fun h => kf h p l e s m args below meth c D dA A ad0 n0 I ad H locs ls g1 g2 g3 g4 g5 g6 g7)
theorem tk_if_gt {x : Int32} {off : Int} {tgt : Nat} (hd : decode cc pc = .ok (.ifCond .gt off, 3)) (ht : (pc : Int) + off = (tgt : Int)) (kt : 0 < x → tk_T y cc nL rt hh d kc ks ro cells slots Q (tgt) (lv) (rest) (w)) (kf : ¬ 0 < x → tk_T y cc nL rt hh d kc ks ro cells slots Q (pc + 3) (lv) (rest) (w)) : tk_T y cc nL rt hh d kc ks ro cells slots Q (pc) (lv) (.int x :: rest) (w) := by
  intro p l e s m args below meth c D dA A ad0 n0 I ad H locs ls g1 g2 g3 g4 g5 g6 g7
  exact lv_if_gt I.1 I.2.1 hd ht (fun h => kt h p l e s m args below meth c D dA A ad0 n0 I ad H locs ls g1 g2 g3 g4 g5 g6 g7) (fun h => kf h p l e s m args below meth c D dA A ad0 n0 I ad H locs ls g1 g2 g3 g4 g5 g6 g7)
theorem tk_if_le {x : Int32} {off : Int} {tgt : Nat} (hd : decode cc pc = .ok (.ifCond .le off, 3)) (ht : (pc : Int) + off = (tgt : Int)) (kt : x ≤ 0 → tk_T y cc nL rt hh d kc ks ro cells slots Q (tgt) (lv) (rest) (w)) (kf : ¬ x ≤ 0 → tk_T y cc nL rt hh d kc ks ro cells slots Q (pc + 3) (lv) (rest) (w)) : tk_T y cc nL rt hh d kc ks ro cells slots Q (pc) (lv) (.int x :: rest) (w) := by
  intro p l e s m args below meth c D dA A ad0 n0 I ad H locs ls g1 g2 g3 g4 g5 g6 g7
  exact lv_if_le I.1 I.2.1 hd ht (fun h => kt h p l e s m args below meth c D dA A ad0 n0 I ad H locs ls g1 g2 g3 g4 g5 g6 g7) (fun h => kf h p l e s m args below meth c D dA A ad0 n0 I ad H locs ls g1 g2 g3 g4 g5 g6 g7)
theorem tk_icmp_eq {x z : Int32} {off : Int} {tgt : Nat} (hd : decode cc pc = .ok (.if_icmp .eq off, 3)) (ht : (pc : Int) + off = (tgt : Int)) (kt : x = z → tk_T y cc nL rt hh d kc ks ro cells slots Q (tgt) (lv) (rest) (w)) (kf : ¬ x = z → tk_T y cc nL rt hh d kc ks ro cells slots Q (pc + 3) (lv) (rest) (w)) : tk_T y cc nL rt hh d kc ks ro cells slots Q (pc) (lv) (.int z :: .int x :: rest) (w) := by
  intro p l e s m args below meth c D dA A ad0 n0 I ad H locs ls g1 g2 g3 g4 g5 g6 g7
  exact lv_icmp_eq I.1 I.2.1 hd ht (fun h => kt h p l e s m args below meth c D dA A ad0 n0 I ad H locs ls g1 g2 g3 g4 g5 g6 g7) (fun h => kf h p l e s m args below meth c D dA A ad0 n0 I ad H locs ls g1 g2 g3 g4 g5 g6 g7)
theorem tk_icmp_ne {x z : Int32} {off : Int} {tgt : Nat} (hd : decode cc pc = .ok (.if_icmp .ne off, 3)) (ht : (pc : Int) + off = (tgt : Int)) (kt : ¬ x = z → tk_T y cc nL rt hh d kc ks ro cells slots Q (tgt) (lv) (rest) (w)) (kf : x = z → tk_T y cc nL rt hh d kc ks ro cells slots Q (pc + 3) (lv) (rest) (w)) : tk_T y cc nL rt hh d kc ks ro cells slots Q (pc) (lv) (.int z :: .int x :: rest) (w) := by
  intro p l e s m args below meth c D dA A ad0 n0 I ad H locs ls g1 g2 g3 g4 g5 g6 g7
  exact lv_icmp_ne I.1 I.2.1 hd ht (fun h => kt h p l e s m args below meth c D dA A ad0 n0 I ad H locs ls g1 g2 g3 g4 g5 g6 g7) (fun h => kf h p l e s m args below meth c D dA A ad0 n0 I ad H locs ls g1 g2 g3 g4 g5 g6 g7)
theorem tk_icmp_lt {x z : Int32} {off : Int} {tgt : Nat} (hd : decode cc pc = .ok (.if_icmp .lt off, 3)) (ht : (pc : Int) + off = (tgt : Int)) (kt : x < z → tk_T y cc nL rt hh d kc ks ro cells slots Q (tgt) (lv) (rest) (w)) (kf : ¬ x < z → tk_T y cc nL rt hh d kc ks ro cells slots Q (pc + 3) (lv) (rest) (w)) : tk_T y cc nL rt hh d kc ks ro cells slots Q (pc) (lv) (.int z :: .int x :: rest) (w) := by
  intro p l e s m args below meth c D dA A ad0 n0 I ad H locs ls g1 g2 g3 g4 g5 g6 g7
  exact lv_icmp_lt I.1 I.2.1 hd ht (fun h => kt h p l e s m args below meth c D dA A ad0 n0 I ad H locs ls g1 g2 g3 g4 g5 g6 g7) (fun h => kf h p l e s m args below meth c D dA A ad0 n0 I ad H locs ls g1 g2 g3 g4 g5 g6 g7)
theorem tk_icmp_ge {x z : Int32} {off : Int} {tgt : Nat} (hd : decode cc pc = .ok (.if_icmp .ge off, 3)) (ht : (pc : Int) + off = (tgt : Int)) (kt : z ≤ x → tk_T y cc nL rt hh d kc ks ro cells slots Q (tgt) (lv) (rest) (w)) (kf : ¬ z ≤ x → tk_T y cc nL rt hh d kc ks ro cells slots Q (pc + 3) (lv) (rest) (w)) : tk_T y cc nL rt hh d kc ks ro cells slots Q (pc) (lv) (.int z :: .int x :: rest) (w) := by
  intro p l e s m args below meth c D dA A ad0 n0 I ad H locs ls g1 g2 g3 g4 g5 g6 g7
  exact lv_icmp_ge I.1 I.2.1 hd ht (fun h => kt h p l e s m args below meth c D dA A ad0 n0 I ad H locs ls g1 g2 g3 g4 g5 g6 g7) (fun h => kf h p l e s m args below meth c D dA A ad0 n0 I ad H locs ls g1 g2 g3 g4 g5 g6 g7)
theorem tk_icmp_gt {x z : Int32} {off : Int} {tgt : Nat} (hd : decode cc pc = .ok (.if_icmp .gt off, 3)) (ht : (pc : Int) + off = (tgt : Int)) (kt : z < x → tk_T y cc nL rt hh d kc ks ro cells slots Q (tgt) (lv) (rest) (w)) (kf : ¬ z < x → tk_T y cc nL rt hh d kc ks ro cells slots Q (pc + 3) (lv) (rest) (w)) : tk_T y cc nL rt hh d kc ks ro cells slots Q (pc) (lv) (.int z :: .int x :: rest) (w) := by
  intro p l e s m args below meth c D dA A ad0 n0 I ad H locs ls g1 g2 g3 g4 g5 g6 g7
  exact lv_icmp_gt I.1 I.2.1 hd ht (fun h => kt h p l e s m args below meth c D dA A ad0 n0 I ad H locs ls g1 g2 g3 g4 g5 g6 g7) (fun h => kf h p l e s m args below meth c D dA A ad0 n0 I ad H locs ls g1 g2 g3 g4 g5 g6 g7)
theorem tk_icmp_le {x z : Int32} {off : Int} {tgt : Nat} (hd : decode cc pc = .ok (.if_icmp .le off, 3)) (ht : (pc : Int) + off = (tgt : Int)) (kt : x ≤ z → tk_T y cc nL rt hh d kc ks ro cells slots Q (tgt) (lv) (rest) (w)) (kf : ¬ x ≤ z → tk_T y cc nL rt hh d kc ks ro cells slots Q (pc + 3) (lv) (rest) (w)) : tk_T y cc nL rt hh d kc ks ro cells slots Q (pc) (lv) (.int z :: .int x :: rest) (w) := by
  intro p l e s m args below meth c D dA A ad0 n0 I ad H locs ls g1 g2 g3 g4 g5 g6 g7
  exact lv_icmp_le I.1 I.2.1 hd ht (fun h => kt h p l e s m args below meth c D dA A ad0 n0 I ad H locs ls g1 g2 g3 g4 g5 g6 g7) (fun h => kf h p l e s m args below meth c D dA A ad0 n0 I ad H locs ls g1 g2 g3 g4 g5 g6 g7)
theorem tk_goto {off : Int} {tgt : Nat} (hd : decode cc pc = .ok (.goto off, 3)) (ht : (pc : Int) + off = (tgt : Int)) (k : tk_T y cc nL rt hh d kc ks ro cells slots Q (tgt) (lv) (rest) (w)) : tk_T y cc nL rt hh d kc ks ro cells slots Q (pc) (lv) (rest) (w) := by
  intro p l e s m args below meth c D dA A ad0 n0 I ad H locs ls g1 g2 g3 g4 g5 g6 g7
  exact lv_goto I.1 I.2.1 hd ht (k p l e s m args below meth c D dA A ad0 n0 I ad H locs ls g1 g2 g3 g4 g5 g6 g7)
theorem tk_tabIn {dflt lo hi : Int} {offs : Array Int} {len : Nat} {x : Int32} {off : Int} {tgt : Nat} (hd : decode cc pc = .ok (.tableswitch dflt lo hi offs, len)) (h1 : ¬ x.toInt < lo) (h2 : ¬ hi < x.toInt) (ho : offs[(x.toInt - lo).toNat]? = some off) (ht : (pc : Int) + off = (tgt : Int)) (k : tk_T y cc nL rt hh d kc ks ro cells slots Q (tgt) (lv) (rest) (w)) : tk_T y cc nL rt hh d kc ks ro cells slots Q (pc) (lv) (.int x :: rest) (w) := by
  intro p l e s m args below meth c D dA A ad0 n0 I ad H locs ls g1 g2 g3 g4 g5 g6 g7
  exact lv_tableIn I.1 I.2.1 hd h1 h2 ho ht (k p l e s m args below meth c D dA A ad0 n0 I ad H locs ls g1 g2 g3 g4 g5 g6 g7)
theorem tk_tabOut {dflt lo hi : Int} {offs : Array Int} {len : Nat} {x : Int32} {tgt : Nat} (hd : decode cc pc = .ok (.tableswitch dflt lo hi offs, len)) (h : x.toInt < lo ∨ hi < x.toInt) (ht : (pc : Int) + dflt = (tgt : Int)) (k : tk_T y cc nL rt hh d kc ks ro cells slots Q (tgt) (lv) (rest) (w)) : tk_T y cc nL rt hh d kc ks ro cells slots Q (pc) (lv) (.int x :: rest) (w) := by
  intro p l e s m args below meth c D dA A ad0 n0 I ad H locs ls g1 g2 g3 g4 g5 g6 g7
  exact lv_tableOut I.1 I.2.1 hd h ht (k p l e s m args below meth c D dA A ad0 n0 I ad H locs ls g1 g2 g3 g4 g5 g6 g7)
theorem tk_eq {pc' : Nat} {lv' : List (Option Value)} {st st' : List Value} {w' : tk_W} (hp : pc = pc') (hl : lv = lv') (hs : st = st') (hw : w = w') (k : tk_T y cc nL rt hh d kc ks ro cells slots Q (pc') (lv') (st') (w')) : tk_T y cc nL rt hh d kc ks ro cells slots Q (pc) (lv) (st) (w) := by
  subst hp; subst hl; subst hs; subst hw; exact k
theorem tk_mono {Q' : tk_R → tk_W → Prop} {st : List Value} (h : ∀ r x, Q' r x → Q r x) (k : tk_T y cc nL rt hh d kc ks ro cells slots Q' pc lv st w) : tk_T y cc nL rt hh d kc ks ro cells slots Q (pc) (lv) (st) (w) := by
  intro p l e s m args below meth c D dA A ad0 n0 I ad H locs ls g1 g2 g3 g4 g5 g6 g7
  intro T hT X
  obtain ⟨t, a1, o, b1, b2, b3, b4, r, ad', w', c1, c2⟩ := k p l e s m args below meth c D dA A ad0 n0 I ad H locs ls g1 g2 g3 g4 g5 g6 g7 T hT X
  exact ⟨t, a1, o, b1, b2, b3, b4, r, ad', w', h _ _ c1, c2⟩
theorem tk_widen {st : List Value} {c' s' : Nat} (h1 : cells ≤ c') (h2 : slots ≤ s') (k : tk_T y cc nL rt hh d kc ks ro c' s' Q pc lv st w) : tk_T y cc nL rt hh d kc ks ro cells slots Q (pc) (lv) (st) (w) := by
  intro p l e s m args below meth c D dA A ad0 n0 I ad H locs ls g1 g2 g3 g4 g5 g6 g7
  exact W.widen h1 h2 (k p l e s m args below meth c D dA A ad0 n0 I ad H locs ls g1 g2 g3 g4 g5 g6 g7)
theorem tk_less {st : List Value} {lv' : List (Option Value)} (h : ∀ (i : Nat) (v : Value), lv'[i]? = some (some v) → lv[i]? = some (some v)) (k : tk_T y cc nL rt hh d kc ks ro cells slots Q (pc) (lv') (st) (w)) : tk_T y cc nL rt hh d kc ks ro cells slots Q (pc) (lv) (st) (w) := by
  intro p l e s m args below meth c D dA A ad0 n0 I ad H locs ls g1 g2 g3 g4 g5 g6 g7
  exact k p l e s m args below meth c D dA A ad0 n0 I ad H locs ls g1 g2 g3 g4 g5 g6 ⟨g7.1, g7.2.1, fun i v hi => g7.2.2 i v (h i v hi)⟩
end TKR
end
section
section TKH
variable {y : MethodName} {cc : ByteArray} {nL : Nat} {rt : Option FieldType} {hh : List (Nat × Nat × Nat × Nat)} {d kc ks : Nat} {ro : Nat → Option (Nat × (Nat → Int32))} {cells slots : Nat} {Q : tk_R → tk_W → Prop} {pc : Nat} {lv : List (Option Value)} {rest : List Value} {w : tk_W}
/-- own's pool entry 'index' is field k of the class ci -/
def tk_F (own : String) (index ci k : Nat) : Prop := ∃ (C : String) (T : u_T) (N : Nat), tk_cl[ci]? = some (C, T, N) ∧ k < N ∧ (∀ x ∈ u_ws C T N, x ∈ tk_tbl) ∧
  (Cond.fieldLink own index (T k).1 (T k).2.1 (T k).2.2.1 ∈ tk_tbl ∨ ∃ host, Cond.fieldLinkNest own index (T k).1 (T k).2.1 (T k).2.2.1 host ∈ tk_tbl)
/-- what a store into field k of the class ci needs: its type; 'fin': final -/
def tk_FP (ci k : Nat) (ty : FieldType) (fin : Bool) : Prop := ∃ (C : String) (T : u_T) (N : Nat) (ty0 : Nat → FieldType), tk_cl[ci]? = some (C, T, N) ∧ (∀ k, k < N → parseFieldDescriptor (T k).2.2.1 = some (ty0 k)) ∧ (∀ a, a < N → ∀ b, b < N → a ≠ b → (T a).2.1 ≠ (T b).2.1) ∧ (T k).2.2.2 = fin ∧ parseFieldDescriptor (T k).2.2.1 = some ty ∧ (T k).1 = C
theorem tk_get {index ci k a : Nat} {fs : List Value} {v : Value} (hd : decode cc pc = .ok (.getfield index, 3)) (hF : tk_F y.cls index ci k) (hw : w[a]? = some (.inr (ci, fs))) (hv : fs[k]? = some v)
    (kk : tk_T y cc nL rt hh d kc ks ro cells slots Q (pc + 3) lv (v :: rest) w) : tk_T y cc nL rt hh d kc ks ro cells slots Q pc lv (.ref a :: rest) w := by
  intro p l e s m args below meth c D dA A ad0 n0 I ad H locs ls g1 g2 g3 g4 g5 g6 g7
  obtain ⟨hx, hb, hml, hr, hlk, hnm, hown, hex, hts, hK, hA, hTh, hns, hst, hro⟩ := id I
  obtain ⟨C, T, N, h1, h2, h3, h4⟩ := hF
  have hv' : (fs.map (tk_v ad))[k]? = some (tk_v ad v) := by rw [List.getElem?_map, hv]; rfl
  rcases h4 with h4 | ⟨host, h4⟩
  · exact va_get (D := D) (ci := ci) (C := C) (T := T) (N := N) hx hb (hts.at args) h3 hown hK g3 a (tk_m_get hw) h1 k h2 (hts _ h4 args) (fun _ h9 => h9) hv' hd (kk p l e s m args below meth c D dA A ad0 n0 I ad H locs ls g1 g2 g3 g4 g5 g6 g7)
  · exact va_getN (D := D) (ci := ci) (C := C) (T := T) (N := N) hx hb (hts.at args) h3 hown hK g3 a (tk_m_get hw) h1 k h2 (hts _ h4 args) (fun _ h9 => h9) hv' hd (kk p l e s m args below meth c D dA A ad0 n0 I ad H locs ls g1 g2 g3 g4 g5 g6 g7)
theorem tk_narrow {ad : Nat → Nat} {ty : FieldType} {v : Value} (h : narrow ty v = v) : narrow ty (tk_v ad v) = tk_v ad v := by
  cases v with
  | ref k => cases ty <;> rfl
  | _ => exact h
theorem tk_fits {ad : Nat → Nat} {ty : FieldType} {v : Value} (h : fits ty v = true) : fits ty (tk_v ad v) = true := by
  cases v with
  | ref k => cases ty <;> first | rfl | exact h | (simp [fits] at h)
  | _ => exact h
theorem tk_set_e {dA : Nat → ClassId} {ad : Nat → Nat} {w : tk_W} {a ci k : Nat} {fs : List Value} {v : Value} : (tk_m dA ad w).set a (ad a, .inr (ci, (fs.map (tk_v ad)).set k (tk_v ad v))) = tk_m dA ad (w.set a (.inr (ci, fs.set k v))) := by
  have h : (fs.map (tk_v ad)).set k (tk_v ad v) = (fs.set k v).map (tk_v ad) := (List.map_set ..).symm
  rw [h]
  exact tk_m_set a (.inr (ci, fs.set k v))
theorem tk_okE_set {n ci k : Nat} {fs : List Value} {v : Value} (h : tk_okE n (.inr (ci, fs)) = true) (hv : tk_ok n v = true) : tk_okE n (.inr (ci, fs.set k v)) = true := by
  refine List.all_eq_true.mpr fun u hu => ?_
  rcases List.mem_or_eq_of_mem_set hu with h1 | h1
  · exact List.all_eq_true.mp h u h1
  · rw [h1]; exact hv
theorem tk_put {index ci k a : Nat} {fs : List Value} {v : Value} {ty : FieldType} (hd : decode cc pc = .ok (.putfield index, 3)) (hF : tk_F y.cls index ci k) (hG : tk_FP ci k ty false) (hw : w[a]? = some (.inr (ci, fs))) (hn : narrow ty v = v) (hf : fits ty v = true) (hk : k < fs.length) (ho : tk_ok w.length v = true)
    (kk : tk_T y cc nL rt hh d kc ks ro cells slots Q (pc + 3) lv rest (w.set a (.inr (ci, fs.set k v)))) : tk_T y cc nL rt hh d kc ks ro cells slots Q pc lv (v :: .ref a :: rest) w := by
  intro p l e s m args below meth c D dA A ad0 n0 I ad H locs ls g1 g2 g3 g4 g5 g6 g7
  obtain ⟨hx, hb, hml, hr, hlk, hnm, hown, hex, hts, hK, hA, hTh, hns, hst, hro⟩ := id I
  obtain ⟨C, T, N, h1, h2, h3, h4⟩ := hF
  obtain ⟨C', T', N', ty0, k1, k2, k3, k4, k5, -⟩ := hG
  cases Option.some.inj (h1.symm.trans k1)
  have hk' : k < (fs.map (tk_v ad)).length := by rw [List.length_map]; exact hk
  have hwf : tk_wf (w.set a (.inr (ci, fs.set k v))) := tk_wf_set g6 (tk_okE_set (g6 a _ hw) ho)
  have hlen : (w.set a (.inr (ci, fs.set k v))).length = w.length := List.length_set
  rcases h4 with h4 | ⟨host, h4⟩
  · refine va_put (D := D) (ci := ci) (ty := ty) (C := C) (T := T) (N := N) hx hb (hts.at args) h3 ty0 k2 k3 hown hK g3 g4 g5 a (tk_m_get hw) h1 k h2 (hts _ h4 args) (fun _ h9 => h9) k4 k5 (tk_narrow hn) (tk_fits hf) hk' hd (fun H1 locs1 e3 e4 e5 => ?_)
    rw [tk_set_e] at e3 e4
    exact kk p l e s m args below meth c D dA A ad0 n0 I ad H1 locs1 ls (by rw [hlen]; exact g1) (by rw [hlen]; exact g2) e3 e4 e5 hwf g7
  · refine va_putN (D := D) (ci := ci) (ty := ty) (C := C) (T := T) (N := N) hx hb (hts.at args) h3 ty0 k2 k3 hown hK g3 g4 g5 a (tk_m_get hw) h1 k h2 (hts _ h4 args) (fun _ h9 => h9) k4 k5 (tk_narrow hn) (tk_fits hf) hk' hd (fun H1 locs1 e3 e4 e5 => ?_)
    rw [tk_set_e] at e3 e4
    exact kk p l e s m args below meth c D dA A ad0 n0 I ad H1 locs1 ls (by rw [hlen]; exact g1) (by rw [hlen]; exact g2) e3 e4 e5 hwf g7
/-- .. by a link that crosses no nest -/
def tk_FF (own : String) (index ci k : Nat) : Prop := ∃ (C : String) (T : u_T) (N : Nat), tk_cl[ci]? = some (C, T, N) ∧ k < N ∧ (∀ x ∈ u_ws C T N, x ∈ tk_tbl) ∧ Cond.fieldLink own index (T k).1 (T k).2.1 (T k).2.2.1 ∈ tk_tbl ∧ C = own
theorem tk_putF {index ci k a : Nat} {fs : List Value} {v : Value} {ty : FieldType} (hd : decode cc pc = .ok (.putfield index, 3)) (hF : tk_FF y.cls index ci k) (hG : tk_FP ci k ty true) (hi : y.name = "<init>") (hw : w[a]? = some (.inr (ci, fs))) (hn : narrow ty v = v) (hf : fits ty v = true) (hk : k < fs.length) (ho : tk_ok w.length v = true)
    (kk : tk_T y cc nL rt hh d kc ks ro cells slots Q (pc + 3) lv rest (w.set a (.inr (ci, fs.set k v)))) : tk_T y cc nL rt hh d kc ks ro cells slots Q pc lv (v :: .ref a :: rest) w := by
  intro p l e s m args below meth c D dA A ad0 n0 I ad H locs ls g1 g2 g3 g4 g5 g6 g7
  obtain ⟨hx, hb, hml, hr, hlk, hnm, hown, hex, hts, hK, hA, hTh, hns, hst, hro⟩ := id I
  obtain ⟨C, T, N, h1, h2, h3, h4, h5⟩ := hF
  obtain ⟨C', T', N', ty0, k1, k2, k3, k4, k5, k6⟩ := hG
  cases Option.some.inj (h1.symm.trans k1)
  have hk' : k < (fs.map (tk_v ad)).length := by rw [List.length_map]; exact hk
  have hwf : tk_wf (w.set a (.inr (ci, fs.set k v))) := tk_wf_set g6 (tk_okE_set (g6 a _ hw) ho)
  have hlen : (w.set a (.inr (ci, fs.set k v))).length = w.length := List.length_set
  refine va_putF (D := D) (ci := ci) (ty := ty) (C := C) (T := T) (N := N) hx hb (hts.at args) h3 ty0 k2 k3 hown hK g3 g4 g5 a (tk_m_get hw) h1 k h2 (hts _ h4 args) (fun _ h9 => h9) k4 (hnm.trans hi) (k6.trans h5) k5 (tk_narrow hn) (tk_fits hf) hk' hd (fun H1 locs1 e3 e4 e5 => ?_)
  rw [tk_set_e] at e3 e4
  exact kk p l e s m args below meth c D dA A ad0 n0 I ad H1 locs1 ls (by rw [hlen]; exact g1) (by rw [hlen]; exact g2) e3 e4 e5 hwf g7
/-! arrays of ints and longs -/
theorem tk_K (dA : Nat → ClassId) (t : Nat) (ty : FieldType) (h : tk_ty[t]? = some ty) : (tk_tys dA)[t]? = some (dA t, ty) := by
  match t, h with
  | 0, h => cases h; rfl
  | 1, h => cases h; rfl
  | 2, h => cases h; rfl
  | 3, h => cases h; rfl
  | t + 4, h => simp [tk_ty] at h
theorem tk_iald {a n : Nat} {f : Nat → Int32} {i : Int32} (j : Nat) (hd : decode cc pc = .ok (.iaload, 1)) (hw : w[a]? = some (.inl (0, n, .inl f))) (hi : i = nI j) (hj : j < n) (hn : n < 2 ^ 31)
    (kk : tk_T y cc nL rt hh d kc ks ro cells slots Q (pc + 1) lv (.int (f j) :: rest) w) : tk_T y cc nL rt hh d kc ks ro cells slots Q pc lv (.int i :: .ref a :: rest) w := by
  intro p l e s m args below meth c D dA A ad0 n0 I ad H locs ls g1 g2 g3 g4 g5 g6 g7
  subst hi
  have h9 : (nI j).toNatClampNeg = j := nI_clamp (by omega)
  refine va_iald (D := D) I.1 I.2.1 I.2.2.2.2.2.2.2.2.2.1 g3 a 0 (tk_m_get hw) rfl (vp_in_nI hj hn) hd ?_
  rw [h9]
  exact kk p l e s m args below meth c D dA A ad0 n0 I ad H locs ls g1 g2 g3 g4 g5 g6 g7
theorem tk_lald {a n : Nat} {f : Nat → Int64} {i : Int32} (j : Nat) (hd : decode cc pc = .ok (.laload, 1)) (hw : w[a]? = some (.inl (1, n, .inr (.inl f)))) (hi : i = nI j) (hj : j < n) (hn : n < 2 ^ 31)
    (kk : tk_T y cc nL rt hh d kc ks ro cells slots Q (pc + 1) lv (.long (f j) :: rest) w) : tk_T y cc nL rt hh d kc ks ro cells slots Q pc lv (.int i :: .ref a :: rest) w := by
  intro p l e s m args below meth c D dA A ad0 n0 I ad H locs ls g1 g2 g3 g4 g5 g6 g7
  subst hi
  have h9 : (nI j).toNatClampNeg = j := nI_clamp (by omega)
  refine va_lald (D := D) I.1 I.2.1 I.2.2.2.2.2.2.2.2.2.1 g3 a 1 (tk_m_get hw) rfl (vp_in_nI hj hn) hd ?_
  rw [h9]
  exact kk p l e s m args below meth c D dA A ad0 n0 I ad H locs ls g1 g2 g3 g4 g5 g6 g7
theorem tk_iast {a n : Nat} {f : Nat → Int32} {i x : Int32} (j : Nat) (hd : decode cc pc = .ok (.iastore, 1)) (hw : w[a]? = some (.inl (0, n, .inl f))) (hi : i = nI j) (hj : j < n) (hn : n < 2 ^ 31)
    (kk : tk_T y cc nL rt hh d kc ks ro cells slots Q (pc + 1) lv rest (w.set a (.inl (0, n, .inl (upd f j x))))) : tk_T y cc nL rt hh d kc ks ro cells slots Q pc lv (.int x :: .int i :: .ref a :: rest) w := by
  intro p l e s m args below meth c D dA A ad0 n0 I ad H locs ls g1 g2 g3 g4 g5 g6 g7
  subst hi
  have h9 : (nI j).toNatClampNeg = j := nI_clamp (by omega)
  refine va_iast (D := D) I.1 I.2.1 I.2.2.2.2.2.2.2.2.2.1 g3 g4 g5 a 0 (tk_m_get hw) rfl (vp_in_nI hj hn) hd (fun H1 locs1 e3 e4 e5 => ?_)
  rw [h9] at e3 e4
  have hs := tk_m_set (dA := dA) (ad := ad) (w := w) a (.inl (0, n, .inl (upd f j x)))
  have e3' : va_P D tk_cl (tk_m dA ad (w.set a (.inl (0, n, .inl (upd f j x))))) H1 := by rw [← hs]; exact e3
  have e4' : va_D A (tk_m dA ad (w.set a (.inl (0, n, .inl (upd f j x))))) := by rw [← hs]; exact e4
  exact kk p l e s m args below meth c D dA A ad0 n0 I ad H1 locs1 ls (by rw [List.length_set]; exact g1) (by rw [List.length_set]; exact g2) e3' e4' e5 (tk_wf_set g6 rfl) g7
theorem tk_last {a n : Nat} {f : Nat → Int64} {i : Int32} {x : Int64} (j : Nat) (hd : decode cc pc = .ok (.lastore, 1)) (hw : w[a]? = some (.inl (1, n, .inr (.inl f)))) (hi : i = nI j) (hj : j < n) (hn : n < 2 ^ 31)
    (kk : tk_T y cc nL rt hh d kc ks ro cells slots Q (pc + 1) lv rest (w.set a (.inl (1, n, .inr (.inl (vp_updL f j x)))))) : tk_T y cc nL rt hh d kc ks ro cells slots Q pc lv (.long x :: .int i :: .ref a :: rest) w := by
  intro p l e s m args below meth c D dA A ad0 n0 I ad H locs ls g1 g2 g3 g4 g5 g6 g7
  subst hi
  have h9 : (nI j).toNatClampNeg = j := nI_clamp (by omega)
  refine va_last (D := D) I.1 I.2.1 I.2.2.2.2.2.2.2.2.2.1 g3 g4 g5 a 1 (tk_m_get hw) rfl (vp_in_nI hj hn) hd (fun H1 locs1 e3 e4 e5 => ?_)
  rw [h9] at e3 e4
  have hs := tk_m_set (dA := dA) (ad := ad) (w := w) a (.inl (1, n, .inr (.inl (vp_updL f j x))))
  have e3' : va_P D tk_cl (tk_m dA ad (w.set a (.inl (1, n, .inr (.inl (vp_updL f j x)))))) H1 := by rw [← hs]; exact e3
  have e4' : va_D A (tk_m dA ad (w.set a (.inl (1, n, .inr (.inl (vp_updL f j x)))))) := by rw [← hs]; exact e4
  exact kk p l e s m args below meth c D dA A ad0 n0 I ad H1 locs1 ls (by rw [List.length_set]; exact g1) (by rw [List.length_set]; exact g2) e3' e4' e5 (tk_wf_set g6 rfl) g7
theorem tk_alen {a t : Nat} {ty : FieldType} {x : vp_A} {v : Int32} (hd : decode cc pc = .ok (.arraylength, 1)) (hw : w[a]? = some (.inl (t, x))) (ht : tk_ty[t]? = some ty) (hv : Int32.ofNat x.1 = v)
    (kk : tk_T y cc nL rt hh d kc ks ro cells slots Q (pc + 1) lv (.int v :: rest) w) : tk_T y cc nL rt hh d kc ks ro cells slots Q pc lv (.ref a :: rest) w := by
  intro p l e s m args below meth c D dA A ad0 n0 I ad H locs ls g1 g2 g3 g4 g5 g6 g7
  exact va_alen (D := D) I.1 I.2.1 I.2.2.2.2.2.2.2.2.2.1 g3 a t (tk_m_get hw) (tk_K dA t ty ht) hv hd (kk p l e s m args below meth c D dA A ad0 n0 I ad H locs ls g1 g2 g3 g4 g5 g6 g7)
/-! the script: an array that nobody writes -/
theorem tk_sld {k L : Nat} {xs : Nat → Int32} {i : Int32} (j : Nat) (hd : decode cc pc = .ok (.iaload, 1)) (hr : ro k = some (L, xs)) (hk : w.length ≤ k) (hi : i = nI j) (hj : j < L) (hn : L < 2 ^ 31)
    (kk : tk_T y cc nL rt hh d kc ks ro cells slots Q (pc + 1) lv (.int (xs j) :: rest) w) : tk_T y cc nL rt hh d kc ks ro cells slots Q pc lv (.int i :: .ref k :: rest) w := by
  intro p l e s m args below meth c D dA A ad0 n0 I ad H locs ls g1 g2 g3 g4 g5 g6 g7
  subst hi
  have h9 : (nI j).toNatClampNeg = j := nI_clamp (by omega)
  obtain ⟨q1, q2, q3⟩ := I.2.2.2.2.2.2.2.2.2.2.2.2.2.2 k L xs hr
  have ha : ad k = ad0 k := g1 k (Or.inr hk)
  show W p l e (tk_rm d kc ks) s m args below meth c H locs cells slots _ (F0 m pc ls (.int (nI j) :: .ref (ad k) :: rest.map (tk_v ad)))
  rw [ha]
  refine va_sld I.1 I.2.1 q1 q2 q3 g5 (vp_in_nI hj hn) hd ?_
  rw [h9]
  exact kk p l e s m args below meth c D dA A ad0 n0 I ad H locs ls g1 g2 g3 g4 g5 g6 g7
theorem tk_slen {k L : Nat} {xs : Nat → Int32} (hd : decode cc pc = .ok (.arraylength, 1)) (hr : ro k = some (L, xs)) (hk : w.length ≤ k)
    (kk : tk_T y cc nL rt hh d kc ks ro cells slots Q (pc + 1) lv (.int (nI L) :: rest) w) : tk_T y cc nL rt hh d kc ks ro cells slots Q pc lv (.ref k :: rest) w := by
  intro p l e s m args below meth c D dA A ad0 n0 I ad H locs ls g1 g2 g3 g4 g5 g6 g7
  obtain ⟨q1, q2, q3⟩ := I.2.2.2.2.2.2.2.2.2.2.2.2.2.2 k L xs hr
  have ha : ad k = ad0 k := g1 k (Or.inr hk)
  show W p l e (tk_rm d kc ks) s m args below meth c H locs cells slots _ (F0 m pc ls (.ref (ad k) :: rest.map (tk_v ad)))
  rw [ha]
  exact va_slen I.1 I.2.1 q1 q2 q3 g5 hd (kk p l e s m args below meth c D dA A ad0 n0 I ad H locs ls g1 g2 g3 g4 g5 g6 g7)
/-! a method's ends -/
theorem tk_end {p : Program} {l : Launch} {e : Env} {s : State} {m : MethodId} {args : Array Value} {below : List Frame} {meth : Method} {c : Code} {D : va_G} {dA : Nat → ClassId} {A : Nat → Prop} {ad0 : Nat → Nat} {n0 : Nat} {R : Room} {H : Heap} {locs : List Loc} {g : JFrame}
    {Qc : Array Value → State → Outcome → State → Prop} (h : ∀ o t, Qc args s o t → va_F A s t ∧ ∃ (r : tk_R) (ad : Nat → Nat) (w : tk_W), Q r w ∧ tk_Out ad s t o r ∧ tk_Ag n0 w.length ad0 ad ∧ n0 ≤ w.length ∧ va_P D tk_cl (tk_m dA ad w) t.heap ∧ va_D A (tk_m dA ad w) ∧ tk_wf w)
    (k : W p l e R s m args below meth c H locs cells slots (MQ below Qc args s kc ks A) g) : W p l e R s m args below meth c H locs cells slots (tk_Z below D dA A ad0 n0 s kc ks Q) g := by
  intro T hT X
  obtain ⟨t, a1, o, b1, b2, b3, L, ⟨-, f2, f3⟩, b5⟩ := k T hT X
  obtain ⟨h1, h2⟩ := h o t b3
  exact ⟨t, a1, o, b1, b2, ⟨f2, L, f3, b5⟩, h1, h2⟩
theorem tk_ireturn {x : Int32} {ty : FieldType} (hd : decode cc pc = .ok (.ireturn, 1)) (hr : rt = some ty) (hn : narrow ty (.int x) = .int x) (hc : cells ≤ kc) (hs : slots ≤ ks) (q : Q (.inl (some (.int x))) w) : tk_T y cc nL rt hh d kc ks ro cells slots Q pc lv [.int x] w := by
  intro p l e s m args below meth c D dA A ad0 n0 I ad H locs ls g1 g2 g3 g4 g5 g6 g7
  refine W.widen hc hs (tk_end (Qc := fun _ s' o t => t.heap = H ∧ o = .returned (some (.int x))) ?_ (W.zret (ty := ty) I.1 I.2.1 (I.2.2.2.1.trans hr) hn (fun t ht _ => ⟨ht, rfl⟩) g5.2.2 hd I.2.2.2.2.1))
  rintro o t ⟨ht, rfl⟩
  exact ⟨g5.F ht, .inl (some (.int x)), ad, w, q, rfl, g1, g2, by rw [ht]; exact g3, g4, g6⟩
theorem tk_lreturn {x : Int64} (hd : decode cc pc = .ok (.lreturn, 1)) (hr : rt = some .long) (hc : cells ≤ kc) (hs : slots ≤ ks) (q : Q (.inl (some (.long x))) w) : tk_T y cc nL rt hh d kc ks ro cells slots Q pc lv [.long x] w := by
  intro p l e s m args below meth c D dA A ad0 n0 I ad H locs ls g1 g2 g3 g4 g5 g6 g7
  refine W.widen hc hs (tk_end (Qc := fun _ s' o t => t.heap = H ∧ o = .returned (some (.long x))) ?_ (W.lret I.1 I.2.1 (I.2.2.2.1.trans hr) (fun t ht _ => ⟨ht, rfl⟩) g5.2.2 hd I.2.2.2.2.1))
  rintro o t ⟨ht, rfl⟩
  exact ⟨g5.F ht, .inl (some (.long x)), ad, w, q, rfl, g1, g2, by rw [ht]; exact g3, g4, g6⟩
theorem tk_return (hd : decode cc pc = .ok (.return_, 1)) (hr : rt = none) (hc : cells ≤ kc) (hs : slots ≤ ks) (q : Q (.inl none) w) : tk_T y cc nL rt hh d kc ks ro cells slots Q pc lv [] w := by
  intro p l e s m args below meth c D dA A ad0 n0 I ad H locs ls g1 g2 g3 g4 g5 g6 g7
  refine W.widen hc hs (tk_end (Qc := fun _ s' o t => t.heap = H ∧ o = .returned none) ?_ (W.vret I.1 I.2.1 (I.2.2.2.1.trans hr) (fun t ht _ => ⟨ht, rfl⟩) g5.2.2 hd I.2.2.2.2.1))
  rintro o t ⟨ht, rfl⟩
  exact ⟨g5.F ht, .inl none, ad, w, q, rfl, g1, g2, by rw [ht]; exact g3, g4, g6⟩
/-! Object.<init>, Math -/
theorem tk_cs {ad : Nat → Nat} (st : List Value) : ((st.map (tk_v ad)).map fun v => v.category).sum = (st.map fun v => v.category).sum := by
  rw [List.map_map]
  congr 1
  exact List.map_congr_left (fun v _ => tk_cat ad v)
theorem tk_objInit {idx a : Nat} (hd : decode cc pc = .ok (.invokespecial idx, 3)) (h1 : Cond.methodLink y.cls idx Lib.objectInit ∈ tk_tbl) (h2 : Cond.instanceMethod Lib.objectInit ∈ tk_tbl) (h3 : Cond.code Lib.objectInit ⟨#[0xb1]⟩ 1 none ∈ tk_tbl) (hr : (rest.map fun v => v.category).sum ≤ 8)
    (kk : tk_T y cc nL rt hh d kc ks ro cells slots Q (pc + 3) lv rest w) : tk_T y cc nL rt hh d kc ks ro cells slots Q pc lv (.ref a :: rest) w := by
  intro p l e s m args below meth c D dA A ad0 n0 I ad H locs ls g1 g2 g3 g4 g5 g6 g7
  obtain ⟨hx, hb, hml, hr', hlk, hnm, hown, hex, hts, hK, hA, hTh, hns, hst, hro⟩ := id I
  refine W.objInit hx hb hown (hts _ h1 args) (hts _ h2 args) (hts _ h3 args) rfl (by rw [hml]; exact g7.1) rfl hd (by show 1 ≤ d + 8; omega) (by show 2 * 0 + _ + 12 ≤ d * 60 + 240; rw [tk_cs]; omega) ?_
  exact kk p l e s m args below meth c D dA A ad0 n0 I ad H locs ls g1 g2 g3 g4 g5 g6 g7
theorem tk_mmin {idx : Nat} {x z : Int32} (hd : decode cc pc = .ok (.invokestatic idx, 3)) (h1 : Cond.methodLink y.cls idx Lib.Math.min.name ∈ tk_tbl) (h2 : Cond.static Lib.Math.min.name ∈ tk_tbl) (h3 : Cond.initialized "java/lang/Math" ∈ tk_tbl) (h4 : Cond.code Lib.Math.min.name Lib.Math.min.code 2 (some .int) ∈ tk_tbl) (hr : (rest.map fun v => v.category).sum ≤ 8) (hc : cells ≤ kc) (hs : slots ≤ ks)
    (kk : tk_T y cc nL rt hh d kc ks ro cells slots Q (pc + 3) lv (.int (if z < x then z else x) :: rest) w) : tk_T y cc nL rt hh d kc ks ro cells slots Q pc lv (.int z :: .int x :: rest) w := by
  intro p l e s m args below meth c D dA A ad0 n0 I ad H locs ls g1 g2 g3 g4 g5 g6 g7
  obtain ⟨hx, hb, hml, hr', hlk, hnm, hown, hex, hts, hK, hA, hTh, hns, hst, hro⟩ := id I
  exact va_mmin hx hb (hml.trans g7.1.symm) hown (hts _ h1 args) (hts _ h2 args) (hts _ h3 args) (hts _ h4 args) (by show 1 ≤ d + 8; omega) (by show _ + 13 ≤ d * 60 + 240; rw [tk_cs]; omega) hc hs hd (kk p l e s m args below meth c D dA A ad0 n0 I ad H locs ls g1 g2 g3 g4 g5 g6 g7)
theorem tk_mmax {idx : Nat} {x z : Int32} (hd : decode cc pc = .ok (.invokestatic idx, 3)) (h1 : Cond.methodLink y.cls idx Lib.Math.max.name ∈ tk_tbl) (h2 : Cond.static Lib.Math.max.name ∈ tk_tbl) (h3 : Cond.initialized "java/lang/Math" ∈ tk_tbl) (h4 : Cond.code Lib.Math.max.name Lib.Math.max.code 2 (some .int) ∈ tk_tbl) (hr : (rest.map fun v => v.category).sum ≤ 8) (hc : cells ≤ kc) (hs : slots ≤ ks)
    (kk : tk_T y cc nL rt hh d kc ks ro cells slots Q (pc + 3) lv (.int (if x < z then z else x) :: rest) w) : tk_T y cc nL rt hh d kc ks ro cells slots Q pc lv (.int z :: .int x :: rest) w := by
  intro p l e s m args below meth c D dA A ad0 n0 I ad H locs ls g1 g2 g3 g4 g5 g6 g7
  obtain ⟨hx, hb, hml, hr', hlk, hnm, hown, hex, hts, hK, hA, hTh, hns, hst, hro⟩ := id I
  exact va_mmax hx hb (hml.trans g7.1.symm) hown (hts _ h1 args) (hts _ h2 args) (hts _ h3 args) (hts _ h4 args) (by show 1 ≤ d + 8; omega) (by show _ + 13 ≤ d * 60 + 240; rw [tk_cs]; omega) hc hs hd (kk p l e s m args below meth c D dA A ad0 n0 I ad H locs ls g1 g2 g3 g4 g5 g6 g7)
theorem tk_mminL {idx : Nat} {x z : Int64} (hd : decode cc pc = .ok (.invokestatic idx, 3)) (h1 : Cond.methodLink y.cls idx Lib.MathLoose.min_long.x ∈ tk_tbl) (h2 : Cond.static Lib.MathLoose.min_long.x ∈ tk_tbl) (h3 : Cond.initialized "java/lang/Math" ∈ tk_tbl) (h4 : Cond.code Lib.MathLoose.min_long.x Lib.MathLoose.min_long.code 4 (some .long) ∈ tk_tbl) (hr : (rest.map fun v => v.category).sum ≤ 8) (hc : cells ≤ kc) (hs : slots ≤ ks)
    (kk : tk_T y cc nL rt hh d kc ks ro cells slots Q (pc + 3) lv (.long (if z < x then z else x) :: rest) w) : tk_T y cc nL rt hh d kc ks ro cells slots Q pc lv (.long z :: .long x :: rest) w := by
  intro p l e s m args below meth c D dA A ad0 n0 I ad H locs ls g1 g2 g3 g4 g5 g6 g7
  obtain ⟨hx, hb, hml, hr', hlk, hnm, hown, hex, hts, hK, hA, hTh, hns, hst, hro⟩ := id I
  exact va_mmin_long hx hb (hml.trans g7.1.symm) hown (hts _ h1 args) (hts _ h2 args) (hts _ h3 args) (hts _ h4 args) (by show 1 ≤ d + 8; omega) (by show _ + 15 ≤ d * 60 + 240; rw [tk_cs]; omega) hc hs hd (kk p l e s m args below meth c D dA A ad0 n0 I ad H locs ls g1 g2 g3 g4 g5 g6 g7)
theorem tk_mmaxL {idx : Nat} {x z : Int64} (hd : decode cc pc = .ok (.invokestatic idx, 3)) (h1 : Cond.methodLink y.cls idx Lib.MathLoose.max_long.x ∈ tk_tbl) (h2 : Cond.static Lib.MathLoose.max_long.x ∈ tk_tbl) (h3 : Cond.initialized "java/lang/Math" ∈ tk_tbl) (h4 : Cond.code Lib.MathLoose.max_long.x Lib.MathLoose.max_long.code 4 (some .long) ∈ tk_tbl) (hr : (rest.map fun v => v.category).sum ≤ 8) (hc : cells ≤ kc) (hs : slots ≤ ks)
    (kk : tk_T y cc nL rt hh d kc ks ro cells slots Q (pc + 3) lv (.long (if z < x then x else z) :: rest) w) : tk_T y cc nL rt hh d kc ks ro cells slots Q pc lv (.long z :: .long x :: rest) w := by
  intro p l e s m args below meth c D dA A ad0 n0 I ad H locs ls g1 g2 g3 g4 g5 g6 g7
  obtain ⟨hx, hb, hml, hr', hlk, hnm, hown, hex, hts, hK, hA, hTh, hns, hst, hro⟩ := id I
  exact va_mmax_long hx hb (hml.trans g7.1.symm) hown (hts _ h1 args) (hts _ h2 args) (hts _ h3 args) (hts _ h4 args) (by show 1 ≤ d + 8; omega) (by show _ + 15 ≤ d * 60 + 240; rw [tk_cs]; omega) hc hs hd (kk p l e s m args below meth c D dA A ad0 n0 I ad H locs ls g1 g2 g3 g4 g5 g6 g7)
/-! new objects, new arrays -/
def tk_fr (n : Nat) (v : Value) : Bool := match v with
  | .ref k => !(k == n)
  | _ => true
theorem tk_v_fr {ad : Nat → Nat} {n q : Nat} {v : Value} (h : tk_fr n v = true) : tk_v (tk_up ad n q) v = tk_v ad v := by
  cases v with
  | ref k =>
    have hk : ¬ k = n := by simpa [tk_fr] using h
    show Value.ref (if k = n then q else ad k) = .ref (ad k)
    rw [if_neg hk]
  | _ => rfl
def tk_frL (n : Nat) (lv : List (Option Value)) : Bool := lv.all (fun o => match o with
  | some v => tk_fr n v
  | none => true)
theorem tk_map_fr {ad : Nat → Nat} {n q : Nat} {st : List Value} (h : st.all (tk_fr n) = true) : st.map (tk_v (tk_up ad n q)) = st.map (tk_v ad) :=
  List.map_congr_left (fun v hv => tk_v_fr (List.all_eq_true.mp h v hv))
theorem tk_L.fr {ad : Nat → Nat} {n q nL : Nat} {ls : Array Slot} {lv : List (Option Value)} (h : tk_L ad ls nL lv) (hf : tk_frL n lv = true) : tk_L (tk_up ad n q) ls nL lv := by
  refine ⟨h.1, h.2.1, fun i v hi => ?_⟩
  have h1 := List.all_eq_true.mp hf (some v) (List.mem_of_getElem? hi)
  rw [tk_v_fr h1]
  exact h.2.2 i v hi
/-- own's pool entry 'index' is the class ci, of N fields, whose defaults are fs -/
def tk_Nw (own : String) (index ci N : Nat) (fs : List Value) : Prop := ∃ (C : String) (T : u_T) (ty : Nat → FieldType), tk_cl[ci]? = some (C, T, N) ∧ (∀ x ∈ u_ws C T N, x ∈ tk_tbl) ∧ (∀ k, k < N → parseFieldDescriptor (T k).2.2.1 = some (ty k)) ∧ Cond.classLink own index C ∈ tk_tbl ∧ Cond.instantiable C N ∈ tk_tbl ∧ Cond.initialized C ∈ tk_tbl ∧ (∀ j, j < N → defaultValue (ty j) = vp_V fs j)
theorem tk_new {index ci N n : Nat} {fs : List Value} (hd : decode cc pc = .ok (.new index, 3)) (hN : tk_Nw y.cls index ci N fs) (hn : w.length = n) (hfs : fs.all (fun v => match v with | .ref _ => false | _ => true) = true) (hst0 : rest.all (tk_fr n) = true) (hlv0 : tk_frL n lv = true) (hc : cells + 1 ≤ kc) (hs : slots + N ≤ ks)
    (kk : tk_T y cc nL rt hh d kc ks ro (cells + 1) (slots + N) Q (pc + 3) lv (.ref n :: rest) (w ++ [.inr (ci, fs)])) : tk_T y cc nL rt hh d kc ks ro cells slots Q pc lv rest w := by
  intro p l e s m args below meth c D dA A ad0 n0 I ad H locs ls g1 g2 g3 g4 g5 g6 g7
  obtain ⟨hx, hb, hml, hr', hlk, hnm, hown, hex, hts, hK, hA, hTh, hns, hst, hro⟩ := id I
  obtain ⟨C, T, ty, h1, h2, h3, h4, h5, h6, h7⟩ := hN
  subst hn
  have hok : tk_okE w.length (.inr (ci, fs)) = true := by
    refine List.all_eq_true.mpr fun v hv => ?_
    have := List.all_eq_true.mp hfs v hv
    cases v <;> first | rfl | (simp at this)
  have hfm : fs.map (tk_v ad) = fs := by
    have h9 : fs.map (tk_v ad) = fs.map id := List.map_congr_left (fun v hv => by
      have := List.all_eq_true.mp hfs v hv
      cases v <;> first | rfl | (simp at this))
    rw [h9, List.map_id]
  refine va_new (D := D) (ci := ci) (fs := fs) (C := C) (T := T) (N := N) hx hb (hts.at args) h2 ty h3 hown (hts _ h4 args) (hts _ h5 args) (hts _ h6 args) hK g3 g4 g5 hA h1 h7 hc hs hd (fun q H1 e3 e4 e5 => ?_)
  have hpush := tk_m_push (dA := dA) (ad := ad) (w := w) (x := .inr (ci, fs)) (q := q) g6 hok
  have he : (q, tk_e dA ad (.inr (ci, fs))) = ((q, .inr (ci, fs)) : Nat × va_E) := by
    show (q, (Sum.inr (ci, fs.map (tk_v ad)) : va_E)) = _
    rw [hfm]
  rw [he] at hpush
  have hl : (w ++ [(.inr (ci, fs) : tk_E)]).length = w.length + 1 := by simp
  have hg1 : tk_Ag n0 (w ++ [(.inr (ci, fs) : tk_E)]).length ad0 (tk_up ad w.length q) := by
    intro k hk
    rw [hl] at hk
    show (if k = w.length then q else ad k) = ad0 k
    rw [if_neg (by omega)]
    exact g1 k (by omega)
  have kk' := kk p l e s m args below meth c D dA A ad0 n0 I (tk_up ad w.length q) H1 locs ls hg1 (by rw [hl]; omega) (by rw [hpush]; exact e3) (by rw [hpush]; exact e4) e5 (tk_wf_push g6 hok) (g7.fr hlv0)
  have hs2 : (Value.ref w.length :: rest).map (tk_v (tk_up ad w.length q)) = .ref q :: rest.map (tk_v ad) := by
    rw [List.map_cons, tk_map_fr hst0]
    show Value.ref (if w.length = w.length then q else ad w.length) :: _ = _
    rw [if_pos rfl]
  rw [hs2] at kk'
  exact kk'
theorem tk_newa {t n N : Nat} {i : Int32} {aty : ArrayType} {ty : FieldType} {a0 : vp_A} (hd : decode cc pc = .ok (.newarray aty, 2)) (hA : Cond.arrayClass (newarray.typeOf aty) ∈ tk_tbl) (hty : newarray.typeOf aty = ty) (ht : tk_ty[t]? = some ty) (ha : ∀ cA : ClassId, vp_cell cA a0 = arrV cA N (fun _ => defaultValue ty)) (hi : i = nI N) (hN : N < 100000) (hn : w.length = n) (hst0 : rest.all (tk_fr n) = true) (hlv0 : tk_frL n lv = true) (hc : cells + 1 ≤ kc) (hs : slots + N ≤ ks)
    (kk : tk_T y cc nL rt hh d kc ks ro (cells + 1) (slots + N) Q (pc + 2) lv (.ref n :: rest) (w ++ [.inl (t, a0)])) : tk_T y cc nL rt hh d kc ks ro cells slots Q pc lv (.int i :: rest) w := by
  intro p l e s m args below meth c D dA A ad0 n0 I ad H locs ls g1 g2 g3 g4 g5 g6 g7
  obtain ⟨hx, hb, hml, hr', hlk, hnm, hown, hex, hts, hK, hAa, hTh, hns, hst, hro⟩ := id I
  subst hn
  subst hi
  have hb9 : N * componentBytes ty ≤ 536870912 := by
    have : componentBytes ty ≤ 8 := by cases ty <;> first | decide | (show _ ≤ 8; simp [componentBytes]) | simp [componentBytes]
    calc N * componentBytes ty ≤ 100000 * 8 := Nat.mul_le_mul (Nat.le_of_lt hN) this
      _ ≤ 536870912 := by decide
  refine va_newa (D := D) hx hb (hts _ hA args) hty hK g3 g4 g5 hAa ha (nI_pos (by omega)) (nI_clamp (by omega)) hb9 hc hs hd (fun q cA H1 eK e3 e4 e5 => ?_)
  have hcA : cA = dA t := by
    have h1 := (eK.2 (tk_tys dA).length (cA, ty) (by simp)).2
    have h2 := (hK.2 t (dA t, ty) (tk_K dA t ty ht)).2
    have h3 : ty = .int ∨ ty = .long ∨ ty = .boolean ∨ ty = .byte := by
      match t, ht with
      | 0, h => cases h; exact Or.inl rfl
      | 1, h => cases h; exact Or.inr (Or.inl rfl)
      | 2, h => cases h; exact Or.inr (Or.inr (Or.inl rfl))
      | 3, h => cases h; exact Or.inr (Or.inr (Or.inr rfl))
      | t + 4, h => simp [tk_ty] at h
    rcases h3 with rfl | rfl | rfl | rfl <;> exact Option.some.inj (h1.symm.trans h2)
  subst hcA
  have hpush := tk_m_push (dA := dA) (ad := ad) (w := w) (x := .inl (t, a0)) (q := q) g6 rfl
  have hl : (w ++ [(.inl (t, a0) : tk_E)]).length = w.length + 1 := by simp
  have hg1 : tk_Ag n0 (w ++ [(.inl (t, a0) : tk_E)]).length ad0 (tk_up ad w.length q) := by
    intro k hk
    rw [hl] at hk
    show (if k = w.length then q else ad k) = ad0 k
    rw [if_neg (by omega)]
    exact g1 k (by omega)
  have kk' := kk p l e s m args below meth c D dA A ad0 n0 I (tk_up ad w.length q) H1 locs ls hg1 (by rw [hl]; omega) (by rw [hpush]; exact e3) (by rw [hpush]; exact e4) e5 (tk_wf_push g6 rfl) (g7.fr hlv0)
  have hs2 : (Value.ref w.length :: rest).map (tk_v (tk_up ad w.length q)) = .ref q :: rest.map (tk_v ad) := by
    rw [List.map_cons, tk_map_fr hst0]
    show Value.ref (if w.length = w.length then q else ad w.length) :: _ = _
    rw [if_pos rfl]
  rw [hs2] at kk'
  exact kk'
end TKH
end
section
/-! ===== calls that return or throw ===== -/
/-- a value whose place isn't among those that have come -/
def tk_kp (n n' : Nat) (v : Value) : Prop := ∀ k : Nat, v = .ref k → k < n ∨ n' ≤ k
theorem tk_v_kp {n n' : Nat} {ad ad' : Nat → Nat} {v : Value} (hA : tk_Ag n n' ad ad') (h : tk_kp n n' v) : tk_v ad' v = tk_v ad v := by
  cases v with
  | ref k => show Value.ref (ad' k) = .ref (ad k); rw [hA k (h k rfl)]
  | _ => rfl
def tk_kps (n n' : Nat) (lv : List (Option Value)) (st : List Value) : Prop := (∀ v ∈ st, tk_kp n n' v) ∧ ∀ (i : Nat) (v : Value), lv[i]? = some (some v) → tk_kp n n' v
theorem tk_kps_same {n n' : Nat} {lv : List (Option Value)} {st : List Value} (h : n' = n) : tk_kps n n' lv st := by
  subst h
  exact ⟨fun v _ k _ => by omega, fun i v _ k _ => by omega⟩
def tk_kpB (n n' : Nat) (v : Value) : Bool := match v with
  | .ref k => decide (k < n) || decide (n' ≤ k)
  | _ => true
theorem tk_kp_of {n n' : Nat} {v : Value} (h : tk_kpB n n' v = true) : tk_kp n n' v := by
  intro k hk
  subst hk
  simpa [tk_kpB] using h
theorem tk_kps_of {n n' : Nat} {lv : List (Option Value)} {st : List Value} (h1 : st.all (tk_kpB n n') = true) (h2 : lv.all (fun o => match o with | some v => tk_kpB n n' v | none => true) = true) : tk_kps n n' lv st :=
  ⟨fun v hv => tk_kp_of (List.all_eq_true.mp h1 v hv), fun i v hi => tk_kp_of (List.all_eq_true.mp h2 (some v) (List.mem_of_getElem? hi))⟩
/-- the machine goes from an invoking frame into the method y -/
def tk_Inv (p : Program) (l : Launch) (e : Env) (R : Room) (s : State) (m : MethodId) (args : Array Value) (below : List Frame) (meth : Method) (c : Code) (H : Heap) (locs : List Loc) (cells slots : Nat) (g : JFrame) (rest : List Value) (y : MethodName) (a : Array Value) : Prop :=
  ∀ T : State, T.heap = H → Stand p l e R s m args below meth c T locs cells slots → ∃ (mk : MethodId) (vm₁ : Vm), Stand p l e R s m args below meth c (T.setVm vm₁) locs cells slots ∧ s.methodNamed? y = some mk ∧
    ∀ target, Steps p.tables e below (doInvoke e ((T.setVm vm₁).setTop { g with stack := rest }) [] mk a).1 target → Steps p.tables e below (T.setTop g) target
/-- a code word: what it says of its method -/
def tk_isC (cw : Cond) (y : MethodName) (nL : Nat) : Prop := ∀ (a : Array Value) (U : State), cw.before a U = true → ∃ (mk : MethodId) (meth : Method) (c : Code), U.methodNamed? y = some mk ∧ U.vm.method? mk = some meth ∧ meth.code = some c ∧ c.maxLocals = nL ∧ parseMethodDescriptor y.desc = some meth.sig
theorem tk_isC_code {y : MethodName} {cc : ByteArray} {nL : Nat} {rt : Option FieldType} : tk_isC (.code y cc nL rt) y nL := by
  intro a U h
  obtain ⟨mk, hn⟩ := Cond.code_named h
  obtain ⟨meth, c, h1, h2, -, h4, -, -, -, h8⟩ := Cond.code_spec hn h
  exact ⟨mk, meth, c, hn, h1, h2, h4, h8⟩
theorem tk_isC_with {y : MethodName} {cc : ByteArray} {nL : Nat} {rt : Option FieldType} {hh : List (Nat × Nat × Nat × Nat)} : tk_isC (.codeWith y cc nL rt hh) y nL := by
  intro a U h
  obtain ⟨mk, meth, c, hn, h1, h2, -, h4, -, -, -, h8⟩ := Cond.codeWith_spec h
  exact ⟨mk, meth, c, hn, h1, h2, h4, h8⟩
section TKC
variable {y : MethodName} {cc : ByteArray} {nL : Nat} {rt : Option FieldType} {hh : List (Nat × Nat × Nat × Nat)} {d kc ks : Nat} {ro : Nat → Option (Nat × (Nat → Int32))} {cells slots : Nat} {Q : tk_R → tk_W → Prop} {pc : Nat} {lv : List (Option Value)} {rest : List Value} {w : tk_W}
/-- an exception of the class C is on its way, from pc -/
def tk_X (y : MethodName) (cc : ByteArray) (nL : Nat) (rt : Option FieldType) (hh : List (Nat × Nat × Nat × Nat)) (d kc ks : Nat) (ro : Nat → Option (Nat × (Nat → Int32))) (cells slots : Nat) (Q : tk_R → tk_W → Prop) (pc : Nat) (lv : List (Option Value)) (C : String) (w : tk_W) : Prop :=
  ∀ (p : Program) (l : Launch) (e : Env) (s : State) (m : MethodId) (args : Array Value) (below : List Frame) (meth : Method) (c : Code) (D : va_G) (dA : Nat → ClassId) (A : Nat → Prop) (ad0 : Nat → Nat) (n0 : Nat), tk_In p l s m meth c y cc nL rt hh D dA A ad0 ro →
  ∀ (ad : Nat → Nat) (H : Heap) (locs : List Loc) (ls : Array Slot) (st : List Value), tk_Ag n0 w.length ad0 ad → n0 ≤ w.length → va_P D tk_cl (tk_m dA ad w) H → va_D A (tk_m dA ad w) → va_S A s.heap H locs → tk_wf w → tk_L ad ls nL lv →
  ∀ (x : Addr) (ce : Cell), H[x]? = some ce → ce.vm = .none → s.vm.findClass C = some ce.cls →
  ∀ T : State, T.heap = H → Stand p l e (tk_rm d kc ks) s m args below meth c T locs cells slots → ∃ t, Steps p.tables e below ((T.setTop (F0 m pc ls st)).pushFrame (.throwing x)) t ∧ tk_Z below D dA A ad0 n0 s kc ks Q t
theorem tk_Th.at {A : Nat → Prop} {ad : Nat → Nat} {s U : State} {w : tk_W} {dA : Nat → ClassId} {H : Heap} {locs : List Loc} (h : tk_Th A s) (hvm : s.vm.Alike U.vm) (hU : U.heap = H) (hS : va_S A s.heap H locs) (hD : va_D A (tk_m dA ad w)) (hA : ∀ q : Nat, s.heap.size ≤ q → A q) : tk_Th (tk_A ad w H.size) U := by
  obtain ⟨u, v, h1, h2, h3, h4, h5, h6⟩ := h
  have hAB : ∀ q, tk_A ad w H.size q → A q := by
    intro q hq
    rcases hq with ⟨k, hk, rfl⟩ | hq
    · exact hD.2 k _ (tk_m_get (List.getElem?_eq_getElem hk))
    · exact hA q (Nat.le_trans hS.1 hq)
  refine ⟨u, v, h1, h2, ?_, ?_, ?_, ?_⟩
  · rw [hU]; exact ((h3.moved hvm).kept hS.2.1).narrow hAB
  · rw [hU]; exact ((h4.moved hvm).kept hS.2.1).narrow hAB
  · rw [hU]; exact h5.go hvm hS.2.1 hAB
  · rw [hU]; exact h6.go hvm hS.2.1 hAB
set_option maxHeartbeats 1000000 in
theorem tk_call {y' : MethodName} {cw : Cond} {nL' d' kc' ks' : Nat} {as st : List Value} {Q' : tk_R → tk_W → Prop} {ig : Instr} (hd : decode cc pc = .ok (ig, 3)) (hM : tk_M y' cw d' kc' ks' as w Q') (hC : tk_isC cw y' nL') (hcw : cw ∈ tk_tbl) (hini : Cond.initialized y'.cls ∈ tk_tbl)
    (hdd : d' < d) (hnL : nL' ≤ 40) (hkc : cells + kc' ≤ kc) (hks : slots + ks' ≤ ks) (hrest : (rest.map fun v => v.category).sum ≤ 8)
    (hinv : ∀ (p : Program) (l : Launch) (e : Env) (s : State) (m : MethodId) (args : Array Value) (below : List Frame) (meth : Method) (c : Code) (D : va_G) (dA : Nat → ClassId) (A : Nat → Prop) (ad0 : Nat → Nat), tk_In p l s m meth c y cc nL rt hh D dA A ad0 ro →
      ∀ (ad : Nat → Nat) (H : Heap) (locs : List Loc) (ls : Array Slot), va_P D tk_cl (tk_m dA ad w) H → ls.size = nL → tk_Inv p l e (tk_rm d kc ks) s m args below meth c H locs cells slots (F0 m pc ls (st.map (tk_v ad))) (rest.map (tk_v ad)) y' (as.map (tk_v ad)).toArray)
    (hkp : ∀ r w', Q' r w' → tk_kps w.length w'.length lv rest)
    (kr : ∀ r w', Q' (.inl r) w' → tk_T y cc nL rt hh d kc ks ro (cells + kc') (slots + ks') Q (pc + 3) lv (r.toList ++ rest) w')
    (kx : ∀ C w', Q' (.inr C) w' → tk_X y cc nL rt hh d kc ks ro (cells + kc') (slots + ks') Q pc lv C w') : tk_T y cc nL rt hh d kc ks ro cells slots Q pc lv st w := by
  intro p l e s m args below meth c D dA A ad0 n0 I ad H locs ls g1 g2 g3 g4 g5 g6 g7
  obtain ⟨hx, hb, hml, hr', hlk, hnm, hown, hex, hts, hK, hA, hTh, hns, hst, hro⟩ := id I
  intro T hT X
  obtain ⟨mk, vm₁, X₁, hnamed, hstep⟩ := hinv p l e s m args below meth c D dA A ad0 I ad H locs ls g3 g7.1 T hT X
  have hAB : ∀ q, tk_A ad w H.size q → A q := by
    intro q hq
    rcases hq with ⟨k, hk, rfl⟩ | hq
    · exact g4.2 k _ (tk_m_get (List.getElem?_eq_getElem hk))
    · exact hA q (Nat.le_trans g5.1 hq)
  generalize hU : T.setVm vm₁ = U at X₁ hstep
  have hUH : U.heap = H := by rw [← hU]; exact hT
  generalize hg : ({ method := m, pc := pc, locals := ls, stack := rest.map (tk_v ad), locked := none } : JFrame) = g
  have hgm : g.method = m := by rw [← hg]
  have hgs : g.locals.size = c.maxLocals := by rw [← hg]; exact g7.1.trans hml.symm
  have hgp : g.pc = pc := by rw [← hg]
  have hdg : decode c.code g.pc = .ok (ig, 3) := by rw [hb, hgp]; exact hd
  have hgw : 2 * g.monitorRoom + (g.stack.map fun v => v.category).sum ≤ 8 := by
    rw [← hg]
    show 2 * 0 + ((rest.map (tk_v ad)).map fun v => v.category).sum ≤ 8
    rw [tk_cs]; omega
  have htsU : tk_ts U := hts.warm X₁.warmed
  obtain ⟨mk', methY, cY, hn', hmY, hcY, hlY, -⟩ := hC #[] U (htsU _ hcw #[])
  have hnU : U.methodNamed? y' = some mk := X₁.named hnamed
  cases hn'.symm.trans hnU
  obtain ⟨kY, hkY, -⟩ := className_of_methodNamed hnU
  have hinitY : kY.init = .initialized := Cond.initialized_spec (findClass_of_methodNamed hnU) hkY (htsU _ hini #[])
  have h : At U g.method c below := by rw [hgm]; exact X₁.here
  have happ : (headSpec [cw] (tk_rm d' kc' ks')).appliesLoose y' e.platform (U.calling g mk (as.map (tk_v ad)).toArray) = true :=
    Spec.appliesLoose_calling (g := g) h hdg hnU hkY hinitY
      (X₁.room_calling (g := g) (R' := tk_rm d' kc' ks') hgs hmY hcY (by show d' + 8 + 1 ≤ d + 8; omega) (by rw [hlY]; show _ + (nL' + 11) + (d' * 60 + 240) ≤ d * 60 + 240; omega) hkc hks) (atoms_intro (ws := [cw]) fun x hx' => by rw [List.mem_singleton.mp hx']; exact htsU _ hcw _)
  obtain ⟨mid, hmid⟩ := h.above
  have hfr : (U.setTop g).frames = (.java g :: mid) ++ below := by rw [State.frames_setTop' g h.top, hmid]; rfl
  have hPre : tk_U D dA ad w (U.calling g mk (as.map (tk_v ad)).toArray) := by
    have hh : (U.calling g mk (as.map (tk_v ad)).toArray).heap = H := hUH
    have hv : (U.calling g mk (as.map (tk_v ad)).toArray).vm = U.vm := rfl
    refine ⟨by rw [hh]; exact g3, g4.weaken (fun _ _ _ _ => trivial), va_K.moved (by rw [hv]; exact X₁.warmed.alike) hK, g6, hts.warm (by rw [hv]; exact X₁.warmed), ?_⟩
    rw [hh]
    exact hTh.at (by rw [hv]; exact X₁.warmed.alike) hh g5 g4 hA
  obtain ⟨o, s₂, hsteps, -, hend, hq⟩ := Steps.callFree (hM l hst D dA ad) p X.admits X.cas X.clock (acts := []) hfr happ ⟨rfl, hPre⟩ trivial
  have hq' : tk_Y D dA (tk_A ad w H.size) ad w.length (U.calling g mk (as.map (tk_v ad)).toArray) kc' ks' Q' o s₂ := by
    have hh : ((U.setTop g).pushFrame (.invoking mk (as.map (tk_v ad)).toArray)).heap.size = H.size := by
      show U.heap.size = H.size
      rw [hUH]
    rw [← hh]
    exact hq
  have hend' : Ended s₂ (.java g :: below) o := by
    rw [State.frames_setTop' g h.top, X₁.tail] at hend
    exact hend
  obtain ⟨⟨hW₂, L, hsame, hL⟩, hF, r, ad', w', hQ', hOut, hAg, hn9, hP', hD', hwf'⟩ := hq'
  have hFz : H.size ≤ s₂.heap.size := by rw [← hUH]; exact hF.1
  have hFk : ∀ q : Nat, q < H.size → ¬ tk_A ad w H.size q → s₂.heap[q]? = H[q]? := fun q h1 h2 => by
    have := hF.2 q (by show q < U.heap.size; rw [hUH]; exact h1) h2
    rw [this]
    show U.heap[q]? = H[q]?
    rw [hUH]
  have hS2 : va_S A s.heap s₂.heap (locs ++ L) := ⟨Nat.le_trans g5.1 hFz, fun q h1 h2 => (hFk q (Nat.lt_of_lt_of_le h1 g5.1) (fun z => h2 (hAB q z))).trans (g5.2.1 q h1 h2), fun q hq1 => by
    rcases List.mem_append.mp hq1 with h1 | h1
    · exact g5.2.2 q h1
    · exact hAB _ (hL q h1)⟩
  have hkp' := hkp r w' hQ'
  have hag2 : tk_Ag n0 w'.length ad0 ad' := fun k hk => (hAg k (by omega)).trans (g1 k (by omega))
  have hg7 : tk_L ad' ls nL lv := ⟨g7.1, g7.2.1, fun i v hi => by rw [tk_v_kp hAg (hkp'.2 i v hi)]; exact g7.2.2 i v hi⟩
  have hrm : rest.map (tk_v ad') = rest.map (tk_v ad) := List.map_congr_left (fun v hv => tk_v_kp hAg (hkp'.1 v hv))
  rcases r with v | C
  · obtain rfl : o = .returned (v.map (tk_v ad')) := hOut
    obtain ⟨T', X', hW3, -, hs2⟩ := X₁.outOf hgm hdg hend' hW₂ hsame
    have hTh' : T'.heap = s₂.heap := by rw [hs2]; rfl
    have hk := kr v w' hQ' p l e s m args below meth c D dA A ad0 n0 I ad' s₂.heap (locs ++ L) ls hag2 (Nat.le_trans g2 hn9) hP' (hD'.weaken (fun k q _ h9 => hAB q.1 h9)) hS2 hwf' hg7
    obtain ⟨t, a1, b1⟩ := hk T' hTh' X'
    refine ⟨t, hstep _ ?_, b1⟩
    rw [hg]
    refine hsteps.trans ?_
    rw [hs2, ← hg]
    have he : (v.toList ++ rest).map (tk_v ad') = (v.map (tk_v ad')).toList ++ rest.map (tk_v ad) := by
      rw [List.map_append, hrm]
      cases v <;> rfl
    rw [he] at a1
    exact a1
  · obtain ⟨x, ce, rfl, hce, hcv, hcl⟩ := hOut
    obtain ⟨T', X', hW3, -, hs2⟩ := X₁.outOfThrown hgm hend' hW₂ hsame
    have hTh' : T'.heap = s₂.heap := by rw [hs2]; rfl
    have hcl' : s.vm.findClass C = some ce.cls := by
      have h9 : U.vm.findClass C = some ce.cls := hcl
      rw [X₁.warmed.alike.findClass] at h9
      exact h9
    obtain ⟨t, a1, b1⟩ := kx C w' hQ' p l e s m args below meth c D dA A ad0 n0 I ad' s₂.heap (locs ++ L) ls (rest.map (tk_v ad)) hag2 (Nat.le_trans g2 hn9) hP' (hD'.weaken (fun k q _ h9 => hAB q.1 h9)) hS2 hwf' hg7 x ce hce hcv hcl' T' hTh' X'
    refine ⟨t, hstep _ ?_, b1⟩
    rw [hg]
    refine hsteps.trans ?_
    rw [hs2, ← hg]
    exact a1
/-- not caught here: it leaves the method -/
theorem tk_X.out {C : String} (hout : ∀ x ∈ hh, (decide (x.1 ≤ pc) && decide (pc < x.2.1)) = false) (hc : cells ≤ kc) (hs : slots ≤ ks) (q : Q (.inr C) w) : tk_X y cc nL rt hh d kc ks ro cells slots Q pc lv C w := by
  intro p l e s m args below meth c D dA A ad0 n0 I ad H locs ls st g1 g2 g3 g4 g5 g6 g7 x ce hce hcv hcl T hT X
  obtain ⟨hx, hb, hml, hr', hlk, hnm, hown, hex, hts, hK, hA, hTh, hns, hst, hro⟩ := id I
  have hout' : ∀ z ∈ c.exceptionTable.toList, covers z (F0 m pc ls st).pc = false := by
    intro z hz
    have := hout (z.startPc, z.endPc, z.handlerPc, z.catchType) (by rw [← hex]; exact List.mem_map.mpr ⟨z, hz, rfl⟩)
    exact this
  obtain ⟨st1, hrun, hend, hW, hsm⟩ := X.leaveThrown x (g := F0 m pc ls st) rfl rfl rfl hout' hlk
  refine ⟨_, st1, .threw x, hrun, hend, ⟨hW, locs, hsm.mono hc hs, g5.2.2⟩, g5.F hT, .inr C, ad, w, q, ⟨x, ce, rfl, ?_, hcv, hcl⟩, g1, g2, ?_, g4, g6⟩
  · show T.heap[x]? = some ce
    rw [hT]; exact hce
  · show va_P D tk_cl (tk_m dA ad w) T.heap
    rw [hT]; exact g3
end TKC
end
section
/-! ===== the three invocations ===== -/
def tk_ML (own : String) (idx : Nat) (y : MethodName) : Prop := Cond.methodLink own idx y ∈ tk_tbl ∨ ∃ host, Cond.methodLinkNest own idx y host ∈ tk_tbl
/-- a callee, by its tables' words: its code word, maxLocals, number of parameters -/
def tk_Ca (y : MethodName) (cw : Cond) (nL n : Nat) : Prop := tk_isC cw y nL ∧ cw ∈ tk_tbl ∧ Cond.initialized y.cls ∈ tk_tbl ∧ nL ≤ 40 ∧ (y.cls ≠ "java/lang/invoke/MethodHandle" ∧ y.cls ≠ "java/lang/invoke/VarHandle") ∧ (parseMethodDescriptor y.desc).map (fun d => d.parameters.length) = some n
def tk_CS (y : MethodName) (cw : Cond) (nL n : Nat) : Prop := tk_Ca y cw nL n ∧ Cond.static y ∈ tk_tbl
def tk_CV (y : MethodName) (cw : Cond) (nL n : Nat) : Prop := tk_Ca y cw nL n ∧ Cond.instanceMethod y ∈ tk_tbl ∧ Cond.selects y.cls y y ∈ tk_tbl
def tk_CI (y : MethodName) (cw : Cond) (nL n : Nat) : Prop := tk_Ca y cw nL n ∧ Cond.instanceMethod y ∈ tk_tbl ∧ y.name = "<init>" ∧ ∃ cc, cw = .code y cc nL none
theorem tk_Ca.len {y : MethodName} {cw : Cond} {nL n : Nat} (h : tk_Ca y cw nL n) : ∀ sig, parseMethodDescriptor y.desc = some sig → n = sig.parameters.length := by
  intro sig hs
  have h2 := h.2.2.2.2.2
  rw [hs] at h2
  exact (Option.some.inj h2).symm
section TKV
variable {y : MethodName} {cc : ByteArray} {nL : Nat} {rt : Option FieldType} {hh : List (Nat × Nat × Nat × Nat)} {d kc ks : Nat} {ro : Nat → Option (Nat × (Nat → Int32))} {cells slots : Nat} {Q : tk_R → tk_W → Prop} {pc : Nat} {lv : List (Option Value)} {rest : List Value} {w : tk_W}
variable {y' : MethodName} {cw : Cond} {nL' n' d' kc' ks' idx : Nat} {as st : List Value} {Q' : tk_R → tk_W → Prop}
theorem tk_callS (hd : decode cc pc = .ok (.invokestatic idx, 3)) (hl : tk_ML y.cls idx y') (hC : tk_CS y' cw nL' n') (hM : tk_M y' cw d' kc' ks' as w Q') (hdd : d' < d) (hkc : cells + kc' ≤ kc) (hks : slots + ks' ≤ ks) (hrest : (rest.map fun v => v.category).sum ≤ 8) (hn : as.length = n') (hst : as.reverse ++ rest = st)
    (hkp : ∀ r w', Q' r w' → tk_kps w.length w'.length lv rest)
    (kr : ∀ r w', Q' (.inl r) w' → tk_T y cc nL rt hh d kc ks ro (cells + kc') (slots + ks') Q (pc + 3) lv (r.toList ++ rest) w')
    (kx : ∀ C w', Q' (.inr C) w' → tk_X y cc nL rt hh d kc ks ro (cells + kc') (slots + ks') Q pc lv C w') : tk_T y cc nL rt hh d kc ks ro cells slots Q pc lv st w := by
  refine tk_call hd hM hC.1.1 hC.1.2.1 hC.1.2.2.1 hdd hC.1.2.2.2.1 hkc hks hrest ?_ hkp kr kx
  intro p l e s m args below meth c D dA A ad0 I ad H locs ls g3 hsz T hT X
  obtain ⟨hx, hb, hml, hr', hlk, hnm, hown, hex, hts, hK, hA, hTh, hns, hst0, hro⟩ := id I
  obtain ⟨mk, methM, cM, hnamed, hmethM, -, -, hsigM⟩ := hC.1.1 #[] s (hts _ hC.1.2.1 #[])
  have hstatic : methM.isStatic = true := Cond.static_spec hnamed hmethM (hts _ hC.2 #[])
  obtain ⟨kP, hkP, -⟩ := className_of_methodNamed hnamed
  have hinitP : kP.init = .initialized := Cond.initialized_spec (findClass_of_methodNamed hnamed) hkP (hts _ hC.1.2.2.1 #[])
  have hlen : (as.map (tk_v ad)).length = methM.sig.parameters.length := by rw [List.length_map, hn]; exact hC.1.len _ hsigM
  have hstk : st.map (tk_v ad) = (as.map (tk_v ad)).reverse ++ rest.map (tk_v ad) := by rw [← hst, List.map_append, List.map_reverse]
  rcases hl with hl | ⟨host, hl⟩
  · obtain ⟨vm₁, X₁, hstep₁⟩ := X.invokestatic hx hown (hts _ hl args) hnamed hmethM hstatic hkP hinitP hC.1.2.2.2.2.1 (g := F0 m pc ls (st.map (tk_v ad))) rfl (argsL := as.map (tk_v ad)) (rest := rest.map (tk_v ad)) hlen hstk (by rw [hb]; exact hd)
    exact ⟨mk, vm₁, X₁, hnamed, fun target h => hstep₁ _ fun acts => by rw [doInvoke_state]; exact h⟩
  · obtain ⟨vm₁, X₁, hstep₁⟩ := X.invokestaticNest hx hown (hts _ hl args) hnamed hmethM hstatic hkP hinitP hC.1.2.2.2.2.1 (g := F0 m pc ls (st.map (tk_v ad))) rfl (argsL := as.map (tk_v ad)) (rest := rest.map (tk_v ad)) hlen hstk (by rw [hb]; exact hd)
    exact ⟨mk, vm₁, X₁, hnamed, fun target h => hstep₁ _ fun acts => by rw [doInvoke_state]; exact h⟩
theorem tk_callV {b ci : Nat} {fs : List Value} {q : vw_C} (hd : decode cc pc = .ok (.invokevirtual idx, 3)) (hl : tk_ML y.cls idx y') (hC : tk_CV y' cw nL' n') (hw : w[b]? = some (.inr (ci, fs))) (hq : tk_cl[ci]? = some q) (hq1 : q.1 = y'.cls) (hM : tk_M y' cw d' kc' ks' (.ref b :: as) w Q') (hdd : d' < d) (hkc : cells + kc' ≤ kc) (hks : slots + ks' ≤ ks) (hrest : (rest.map fun v => v.category).sum ≤ 8) (hn : as.length = n') (hst : as.reverse ++ .ref b :: rest = st)
    (hkp : ∀ r w', Q' r w' → tk_kps w.length w'.length lv rest)
    (kr : ∀ r w', Q' (.inl r) w' → tk_T y cc nL rt hh d kc ks ro (cells + kc') (slots + ks') Q (pc + 3) lv (r.toList ++ rest) w')
    (kx : ∀ C w', Q' (.inr C) w' → tk_X y cc nL rt hh d kc ks ro (cells + kc') (slots + ks') Q pc lv C w') : tk_T y cc nL rt hh d kc ks ro cells slots Q pc lv st w := by
  refine tk_call hd hM hC.1.1 hC.1.2.1 hC.1.2.2.1 hdd hC.1.2.2.2.1 hkc hks hrest ?_ hkp kr kx
  intro p l e s m args below meth c D dA A ad0 I ad H locs ls g3 hsz T hT X
  obtain ⟨hx, hb, hml, hr', hlk, hnm, hown, hex, hts, hK, hA, hTh, hns, hst0, hro⟩ := id I
  obtain ⟨mk, methM, hnamed, hmethM, hstM, habM⟩ := Cond.instanceMethod_spec (hts _ hC.2.1 args)
  obtain ⟨mk', methM', cM, hnamed', hmethM', -, -, hsigM⟩ := hC.1.1 #[] s (hts _ hC.1.2.1 #[])
  cases hnamed.symm.trans hnamed'
  cases hmethM.symm.trans hmethM'
  obtain ⟨cellB, hcB, hoB, hclB⟩ := va_recv hK g3 hq (tk_m_get hw)
  obtain ⟨c2, r2, m2, q1, q2, q3, q4, kP, hkP, hkPi⟩ := Cond.selects_spec (hts _ hC.2.2 args)
  rw [hq1] at hclB
  cases hclB.symm.trans q1
  cases (State.methodFound?_of_named hnamed hC.1.2.2.2.2.1).symm.trans q2
  cases hnamed.symm.trans q3
  have hselP : selectMethod e.platform s.vm cellB.cls mk = .method mk := by rw [Launch.admits_selectMethod X.admits]; exact q4
  have hlen : (as.map (tk_v ad)).length = methM.sig.parameters.length := by rw [List.length_map, hn]; exact hC.1.len _ hsigM
  have hstk : st.map (tk_v ad) = (as.map (tk_v ad)).reverse ++ .ref (ad b) :: rest.map (tk_v ad) := by rw [← hst, List.map_append, List.map_reverse]; rfl
  have hcT : T.heap[ad b]? = some cellB := by rw [hT]; exact hcB
  have hne : ∀ z, cellB.vm ≠ .statics z := fun z h => by rw [h] at hoB; cases hoB
  rcases hl with hl | ⟨host, hl⟩
  · obtain ⟨vm₁, X₁, hstep₁⟩ := X.invokevirtual hx hown (hts _ hl args) hnamed hmethM hstM hkP hkPi hC.1.2.2.2.2.1 (a := ad b) (cell := cellB) hcT hne hselP hmethM habM hkP hkPi (g := F0 m pc ls (st.map (tk_v ad))) rfl (argsL := as.map (tk_v ad)) (rest := rest.map (tk_v ad)) hlen hstk (by rw [hb]; exact hd)
    exact ⟨mk, vm₁, X₁, hnamed, fun target h => hstep₁ _ fun acts => by rw [doInvoke_state]; exact h⟩
  · obtain ⟨vm₁, X₁, hstep₁⟩ := X.invokevirtualNest hx hown (hts _ hl args) hnamed hmethM hstM hkP hkPi hC.1.2.2.2.2.1 (a := ad b) (cell := cellB) hcT hne hselP hmethM habM hkP hkPi (g := F0 m pc ls (st.map (tk_v ad))) rfl (argsL := as.map (tk_v ad)) (rest := rest.map (tk_v ad)) hlen hstk (by rw [hb]; exact hd)
    exact ⟨mk, vm₁, X₁, hnamed, fun target h => hstep₁ _ fun acts => by rw [doInvoke_state]; exact h⟩
theorem tk_callI {b : Nat} (hd : decode cc pc = .ok (.invokespecial idx, 3)) (hl : tk_ML y.cls idx y') (hC : tk_CI y' cw nL' n') (hM : tk_M y' cw d' kc' ks' (.ref b :: as) w Q') (hdd : d' < d) (hkc : cells + kc' ≤ kc) (hks : slots + ks' ≤ ks) (hrest : (rest.map fun v => v.category).sum ≤ 8) (hn : as.length = n') (hst : as.reverse ++ .ref b :: rest = st)
    (hkp : ∀ r w', Q' r w' → tk_kps w.length w'.length lv rest)
    (kr : ∀ r w', Q' (.inl r) w' → tk_T y cc nL rt hh d kc ks ro (cells + kc') (slots + ks') Q (pc + 3) lv (r.toList ++ rest) w')
    (kx : ∀ C w', Q' (.inr C) w' → tk_X y cc nL rt hh d kc ks ro (cells + kc') (slots + ks') Q pc lv C w') : tk_T y cc nL rt hh d kc ks ro cells slots Q pc lv st w := by
  refine tk_call hd hM hC.1.1 hC.1.2.1 hC.1.2.2.1 hdd hC.1.2.2.2.1 hkc hks hrest ?_ hkp kr kx
  intro p l e s m args below meth c D dA A ad0 I ad H locs ls g3 hsz T hT X
  obtain ⟨hx, hb, hml, hr', hlk, hnm, hown, hex, hts, hK, hA, hTh, hns, hst0, hro⟩ := id I
  have hpl : e.platform.magicAccessors = ({} : Platform).magicAccessors := by rw [X.admits.platform]
  obtain ⟨hCa, hin, hyn, cc', rfl⟩ := hC
  have hlen : ∀ sig, parseMethodDescriptor y'.desc = some sig → (as.map (tk_v ad)).length = sig.parameters.length := fun sig hs => by rw [List.length_map, hn]; exact hCa.len _ hs
  have hstk : st.map (tk_v ad) = (as.map (tk_v ad)).reverse ++ .ref (ad b) :: rest.map (tk_v ad) := by rw [← hst, List.map_append, List.map_reverse]; rfl
  rcases hl with hl | ⟨host, hl⟩
  · obtain ⟨mk, methM, cM, kP, vm₁, hnamed, hmethM, hcodeM, -, hlocalsM, -, hkP, -, hW₁, hstep₁⟩ := Steps.initColdArgs (e := e) X.here hx X.warmed hpl hown hyn hCa.2.2.2.2.1 (hts _ hl args) (hts _ hin args) (hts _ hCa.2.1 args) (f := F0 m pc ls (st.map (tk_v ad))) rfl hlen hstk (by rw [hb]; exact hd)
    exact ⟨mk, vm₁, X.noted hW₁, hnamed, fun target h => hstep₁ _ fun acts => by rw [doInvoke_state]; exact h⟩
  · obtain ⟨mk, methM, cM, kP, vm₁, hnamed, hmethM, hcodeM, -, hlocalsM, -, hkP, -, hW₁, hstep₁⟩ := Steps.initColdArgsNest (e := e) X.here hx X.warmed hpl hown hyn hCa.2.2.2.2.1 (hts _ hl args) (hts _ hin args) (hts _ hCa.2.1 args) (f := F0 m pc ls (st.map (tk_v ad))) rfl hlen hstk (by rw [hb]; exact hd)
    exact ⟨mk, vm₁, X.noted hW₁, hnamed, fun target h => hstep₁ _ fun acts => by rw [doInvoke_state]; exact h⟩
end TKV
end
section
/-! ===== throw new E("text") ===== -/
/-- a walk may be seen as one that begins at its present state -/
theorem tk_rebase {p : Program} {l : Launch} {e : Env} {R : Room} {s : State} {m : MethodId} {args : Array Value} {below : List Frame} {meth : Method} {c : Code} {T : State} {locs : List Loc} {cells slots : Nat} (X : Stand p l e R s m args below meth c T locs cells slots) {R' : Room} (hf : R'.frames ≤ R.frames) (hl : R'.locals ≤ R.locals) (hc : cells + R'.cells ≤ R.cells) (hs : slots + R'.slots ≤ R.slots) :
    Stand p l e R' ((T.setVm s.vm).setFrames (.invoking m args :: below)) m args below meth c T [] 0 0 := by
  have htop : (T.setVm s.vm).topJava?.isSome := X.here.top
  have hF : ((T.setVm s.vm).setFrames (.invoking m args :: below)).frames = .invoking m args :: below := State.frames_setFrames _ (State.cur_lt_of_top htop)
  obtain ⟨g₀, hg0⟩ := Option.isSome_iff_exists.mp htop
  obtain ⟨r, hr⟩ := State.topJava?_eq_some.mp hg0
  have hli : e.platform.stackLimits (T.setVm s.vm).me = e.platform.stackLimits s.me := X.limits
  have hby : (T.setVm s.vm).me.stackBytes = s.me.stackBytes := X.bytes
  have hroom : ((T.setVm s.vm).setFrames (.invoking m args :: below)).hasRoom e.platform R' = true := by
    have h := X.room
    have hU : ((T.setVm s.vm).setFrames (.invoking m args :: below)).localsInUse = s.localsInUse := by
      rw [State.localsInUse_invoking hF (meth := meth) (c := c) X.method X.code, State.localsInUse_invoking X.frames X.method X.code]
    simp only [State.hasRoom, Bool.and_eq_true, decide_eq_true_eq] at h ⊢
    obtain ⟨⟨⟨⟨h1, h2, h3, h4, h5, h6⟩, h7⟩, h8⟩, h9⟩ := h
    rw [X.frames, List.length_cons] at h2 h3
    have q1 := X.heapSize
    have q2 := X.used
    simp only [hF, hU, List.length_cons, State.stackLimits_setFrames, State.stackBytes_setFrames, hli, hby]
    refine ⟨⟨⟨⟨by omega, by omega, by omega, by omega, by omega, h6⟩, ?_⟩, ?_⟩, X.book⟩
    · show T.heap.size + R'.cells ≤ e.platform.maxCells
      omega
    · show T.slotsUsed + R'.slots ≤ e.platform.maxSlots
      omega
  have hnil : ((T.heap.toList.drop T.heap.size).map (·.slots.size)).sum = 0 := by
    rw [List.drop_eq_nil_of_le (Nat.le_of_eq Array.length_toList)]
    rfl
  have hsame : ((T.setVm s.vm).setFrames (.invoking m args :: below)).sameButNew (T.setVm ((T.setVm s.vm).setFrames (.invoking m args :: below)).vm) [] 0 0 := by
    refine ⟨?_, Nat.le_refl _, Nat.le_refl _, ?_, ?_, fun a c9 h9 => ⟨c9, h9, rfl, rfl, fun _ _ => rfl⟩⟩
    · obtain ⟨t, ht, -⟩ := State.frames_cons hr
      show T.setVm s.vm = { ((T.setVm s.vm).setFrames (.invoking m args :: below)).setFrames (T.setVm s.vm).frames with heap := T.heap, slotsUsed := T.slotsUsed }
      rw [State.setFrames_setFrames, State.setFrames_self ht]
      rfl
    · show T.slotsUsed = T.slotsUsed + ((T.heap.toList.drop T.heap.size).map (·.slots.size)).sum
      rw [hnil]
      rfl
    · show ((T.heap.toList.drop T.heap.size).map (·.slots.size)).sum ≤ 0
      rw [hnil]
      exact Nat.le_refl _
  exact ⟨X.admits, X.cas, X.clock, hF, hroom, X.hears, X.method, X.code, X.here, X.tail, X.warmed, by rw [State.stackLimits_setFrames]; rfl, by rw [State.stackBytes_setFrames]; rfl, hsame⟩
/-- where nothing old was written every old cell is as it was -/
theorem tk_frame {s U : State} {k n : Nat} (h : s.sameButNew ({ U with vm := s.vm } : State) [] k n) : s.heap.size ≤ U.heap.size ∧ ∀ q : Nat, q < s.heap.size → U.heap[q]? = s.heap[q]? := by
  obtain ⟨-, h2, -, -, -, h6⟩ := h
  refine ⟨h2, fun q hq => ?_⟩
  obtain ⟨c9, e1, e2, e3, e4⟩ := h6 q _ (Array.getElem?_eq_getElem hq)
  have hs : c9.slots = (s.heap[q]).slots := Array.ext_getElem? fun i => e4 i fun hm => nomatch hm
  have h9 : c9 = s.heap[q] := by
    rw [hs] at e2
    exact e2
  have e5 : U.heap[q]? = some c9 := e1
  rw [e5, h9, Array.getElem?_eq_getElem hq]
def tk_four : List Cond := [.isRef (.static Bundle.tN "UNASSIGNED_STACK" Bundle.steD), .isRef (.static Bundle.tN "SUPPRESSED_SENTINEL" Bundle.listD), .laysStatic Bundle.tN "UNASSIGNED_STACK" Bundle.steD, .laysStatic Bundle.tN "SUPPRESSED_SENTINEL" Bundle.listD]
theorem tk_isRef {C n f9 : String} {v : Value} {A : Nat → Prop} {s : State} {args : Array Value} (h : va_Z C n f9 v A s s.heap) (hv : v.isRef = true) : (Cond.isRef (.static C n f9)).before args s = true := by
  obtain ⟨cf, kf, fi, f, a, cell, h1, h2, h3, h4, h5, h6, h7, -⟩ := h
  have he : (Term.static C n f9).eval args s none [] s = some v := by
    simp [Term.eval, State.fieldNamed?, h1, h2, h4, h5, h6, h7]
  simp only [Cond.before, Cond.holds, Cond.value, he]
  cases v <;> simp_all [Value.isRef]
theorem tk_Th.words {A : Nat → Prop} {s : State} (h : tk_Th A s) (args : Array Value) : ∀ x ∈ tk_four, x.before args s = true := by
  obtain ⟨u, v, h1, h2, h3, h4, h5, h6⟩ := h
  intro x hx
  simp only [tk_four, List.mem_cons, List.not_mem_nil, or_false] at hx
  rcases hx with rfl | rfl | rfl | rfl
  · exact tk_isRef h3 h1
  · exact tk_isRef h4 h2
  · obtain ⟨c, k, i, f, a, cell, e1, e2, e3, e4, e5, e6, e7, e8, e9, -⟩ := h5
    exact Cond.laysStatic_of e1 e2 e3 e4 e5 e6 e7 e8 e9
  · obtain ⟨c, k, i, f, a, cell, e1, e2, e3, e4, e5, e6, e7, e8, e9, -⟩ := h6
    exact Cond.laysStatic_of e1 e2 e3 e4 e5 e6 e7 e8 e9
/-- the tables' words of 'new E("text")' at own's entries ik, is, ic; names: the classes between E and Throwable -/
def tk_Tw (own : String) (ik is ic : Nat) (E text : String) (names : List String) : Prop :=
  Bundle.fit E = true ∧ (∀ n ∈ names, Bundle.fit n = true) ∧ Cond.classLink own ik E ∈ tk_tbl ∧ Cond.initialized E ∈ tk_tbl ∧ Cond.stringRef own is text ∈ tk_tbl ∧ (∀ x ∈ Bundle.ownAtoms own ic E names, x ∈ tk_tbl ∨ x ∈ tk_four) ∧ names.length ≤ 4
section TKT
variable {y : MethodName} {cc : ByteArray} {nL : Nat} {rt : Option FieldType} {hh : List (Nat × Nat × Nat × Nat)} {d kc ks : Nat} {ro : Nat → Option (Nat × (Nat → Int32))} {cells slots : Nat} {Q : tk_R → tk_W → Prop} {pc : Nat} {lv : List (Option Value)} {rest : List Value} {w : tk_W}
set_option maxHeartbeats 2000000 in
theorem tk_throw {ik is ic : Nat} {E text : String} {names : List String} (d0 : decode cc pc = .ok (.new ik, 3)) (d3 : decode cc (pc + 3) = .ok (.dup, 1)) (d4 : decode cc (pc + 4) = .ok (.ldc is, 2)) (d6 : decode cc (pc + 6) = .ok (.invokespecial ic, 3)) (d9 : decode cc (pc + 9) = .ok (.athrow, 1))
    (hT9 : tk_Tw y.cls ik is ic E text names) (hout : ∀ x ∈ hh, (decide (x.1 ≤ pc + 9) && decide (pc + 9 < x.2.1)) = false) (hc : cells + 1 ≤ kc) (hs : slots + 6 ≤ ks) (hrest : (rest.map fun v => v.category).sum ≤ 8) (q : Q (.inr E) w) : tk_T y cc nL rt hh d kc ks ro cells slots Q pc lv rest w := by
  intro p l e s m args below meth c D dA A ad0 n0 I ad H locs ls g1 g2 g3 g4 g5 g6 g7
  obtain ⟨hx, hb, hml, hr', hlk, hnm, hown, hex, hts, hK, hA, hTh, hns, hst, hro⟩ := id I
  obtain ⟨hcls, hnames, hk, hini, hstr, hat, hnl⟩ := hT9
  intro T hT X
  have htr : e.platform.stackTraces = false := (show e.platform.stackTraces = l.stackTraces by rw [X.admits.platform]).trans hst
  have Y := tk_rebase X (R' := { frames := d + 8, locals := d * 60 + 240, cells := 1, slots := 6 }) (Nat.le_refl _) (Nat.le_refl _) hc hs
  obtain ⟨s', hs'⟩ : ∃ z, z = (T.setVm s.vm).setFrames (.invoking m args :: below) := ⟨_, rfl⟩
  rw [← hs'] at Y
  have hvm : s'.vm = s.vm := by rw [hs']; rfl
  have hhp : s'.heap = H := by rw [hs']; exact hT
  have hW0 : s.WarmedH s'.vm := by rw [hvm]; exact State.WarmedH.refl s
  have hts' : tk_ts s' := hts.warm hW0
  have hTh' : tk_Th (tk_A ad w H.size) s' := hTh.at hW0.alike hhp g5 g4 hA
  have h : ∀ x ∈ Bundle.ownAtoms y.cls ic E names, x.before args s' = true := fun x hx' => (hat x hx').elim (fun h1 => hts' x h1 args) (fun h1 => hTh'.words args x h1)
  have hown' : s'.vm.findClass y.cls = some m.cls := by rw [hvm]; exact hown
  have hins : (Cond.instantiable E 6).before args s' = true := h _ (by simp [Bundle.ownAtoms])
  obtain ⟨_, _, _, sa, _, _, _, _, _, hsa⟩ := Cond.stringRef_spec hown' (hts' _ hstr args)
  obtain ⟨vm₁, cX, kX, hfX, hkX, -, -, X₁, st1⟩ := Y.newCold hx (own := y.cls) (C := E) (index := ik) (n := 6) hown' (hts' _ hk args) hins (hts' _ hini args)
    (g := F0 m pc ls (rest.map (tk_v ad))) rfl (by rw [hb]; exact d0) (Nat.le_refl _) (Nat.le_refl _)
  generalize hT1 : (T.setVm vm₁).pushCell { cls := cX, slots := kX.instanceTypes.map defaultValue, vm := .none } = T1 at X₁ st1
  have hcat : (Value.ref T.heap.size).category = 1 := rfl
  have hcellA : T1.heap[T.heap.size]? = some (freshCell cX kX) := by rw [← hT1]; exact State.heap_pushCell_size _ _
  have d3' : decode c.code (pc + 3) = .ok (.dup, 1) := by rw [hb]; exact d3
  have hout' : ∀ z ∈ c.exceptionTable.toList, covers z (pc + 6 + 3) = false := by
    intro z hz
    exact hout (z.startPc, z.endPc, z.handlerPc, z.catchType) (by rw [← hex]; exact List.mem_map.mpr ⟨z, hz, rfl⟩)
  obtain ⟨U, hsteps, hrun, hend, hW, hsame, ce, hce, hO⟩ := X₁.ctorThrowS hx htr (own := y.cls) (cls := E) (names := names) (ic := ic) hown' hcls hnames h (fun x hx => nomatch hx) hfX hkX hcellA (by rw [hhp, hT]; exact Nat.le_refl _) (msg := .ref sa) rfl
    (g := { method := m, pc := pc + 6, locals := ls, stack := .ref sa :: .ref T.heap.size :: .ref T.heap.size :: rest.map (tk_v ad), locked := none }) rfl (g7.1.trans hml.symm) rfl rfl (rest := rest.map (tk_v ad)) rfl
    (by rw [hb]; exact d6) (by rw [hb]; exact d9) hout' (by show names.length + 3 < d + 8; omega) (by
      show 2 * 0 + ((Value.ref T.heap.size :: rest.map (tk_v ad)).map fun v => v.category).sum + (13 * (names.length + 1) + 42) ≤ d * 60 + 240
      rw [List.map_cons, List.sum_cons, hcat, tk_cs]; omega) hlk
  obtain ⟨f1, f2⟩ := tk_frame hsame
  rw [hhp] at f1 f2
  have hWs : s.WarmedH U.vm := State.WarmedH.trans hW0 hW
  have hcl : s.vm.findClass E = some ce.cls := by
    have h9 := hO.cls
    rw [hvm] at h9
    exact h9
  have hall : s.sameButNew ({ U with vm := s.vm } : State) locs kc ks := by
    subst hs'
    obtain ⟨e1, e2⟩ := hsame
    rw [State.setFrames_setFrames] at e1
    have h2 : (T.setVm s.vm).sameButNew ({ U with vm := s.vm } : State) [] (0 + 1) (0 + 6) := ⟨e1, e2⟩
    have h3 := X.same.trans h2
    rw [List.append_nil] at h3
    exact h3.mono hc hs
  have hP' : va_P D tk_cl (tk_m dA ad w) U.heap := fun k x hk9 => (g3 k x hk9).kept (f2 x.1 (g3 k x hk9).lt)
  refine ⟨U, ?_, .threw T.heap.size, hrun, hend, ⟨hWs, locs, hall, g5.2.2⟩, ⟨Nat.le_trans g5.1 f1, fun x h1 h2 => (f2 x (Nat.lt_of_lt_of_le h1 g5.1)).trans (g5.2.1 x h1 h2)⟩, .inr E, ad, w, q, ⟨T.heap.size, ce, rfl, hce, hO.vm, hcl⟩, g1, g2, hP', g4, g6⟩
  refine st1 _ ?_
  show Steps p.tables e below (T1.setTop { method := m, pc := pc + 3, locals := ls, stack := .ref T.heap.size :: rest.map (tk_v ad), locked := none }) _
  jvm_step X₁.here [X₁.here.top, hx, d3', Value.category]
  exact X₁.ldcString hx hown' (text := text) (a := sa) (hts' _ hstr args) hsa (g := { method := m, pc := pc + 4, locals := ls, stack := .ref T.heap.size :: .ref T.heap.size :: rest.map (tk_v ad), locked := none }) rfl (by rw [hb]; exact d4) _ hsteps
end TKT
/-! ===== an exception that is caught: the search through a table whose classes may have to be resolved first ===== -/
def tk_pass (pl : Platform) (s₀ : State) (k pc : Nat) (thrown : ClassId) (z : ExceptionTableEntry) : Prop := covers z pc = false ∨ (z.catchType ≠ 0 ∧ ∃ c, s₀.vm.ClassLinks pl k z.catchType c ∧ s₀.vm.assignable thrown c = false)
theorem tk_search {e : Env} {s₀ : State} {f : JFrame} {a : Addr} {cell : Cell} {x : ExceptionTableEntry} {rest : List ExceptionTableEntry} {c : ClassId} (hobj : ∀ k, cell.vm ≠ .statics k) (hk0 : ∃ k, s₀.vm.classes[cell.cls]? = some k)
    (hx : covers x f.pc = true) (h0 : x.catchType ≠ 0) (hl : s₀.vm.ClassLinks e.platform f.method.cls x.catchType c) (hfit : s₀.vm.assignable cell.cls c = true) :
    ∀ (pre : List ExceptionTableEntry) (S : State), s₀.WarmedH S.vm → S.heap[a]? = some cell → (∀ z ∈ pre, tk_pass e.platform s₀ f.method.cls f.pc cell.cls z) →
      ∃ vm', s₀.WarmedH vm' ∧ ∀ (Q : Handler → Pre) (E : CtlPost) (b : Bool) (acts : List Action), wp (findHandler.go f a (pre ++ x :: rest)) Q E e b acts S ↔ Q (.found x.handlerPc) b acts (S.setVm vm') := by
  obtain ⟨k0, hk0⟩ := hk0
  intro pre
  induction pre with
  | nil =>
    intro S hW hcell _
    obtain ⟨k0', hk0', -⟩ := hW.alike.2.2 _ _ hk0
    obtain ⟨dk, _, _, kt, hd, _, _, _, _, hkt, _, hopen⟩ := hl.here
    obtain ⟨kt', hkt', -⟩ := hW.alike.2.2 _ _ hkt
    have hlS := hW.classLinks hl
    refine ⟨_, hW.noted hd hopen (State.rightAt_cls hl), fun Q E b acts => ?_⟩
    rw [List.nil_append]
    have hx' : (decide (x.startPc ≤ f.pc) && decide (f.pc < x.endPc)) = true := hx
    obtain ⟨ha, ht⟩ := (resolveClass_links e.toSetting hlS).op (op := VmOp.resolveClass f.method.cls x.catchType) rfl
    have hal : S.vm.Alike (S.vm.noted f.method.cls x.catchType (.cls c)) := (Vm.Alike.refl S.vm).noted _ _ _
    obtain ⟨k1', hk1', -⟩ := hal.2.2 _ _ hk0'
    obtain ⟨k2', hk2', -⟩ := hal.2.2 _ _ hkt'
    have hf' : (S.vm.noted f.method.cls x.catchType (.cls c)).assignable cell.cls c = true := by rw [hal.assignable, hW.alike.assignable]; exact hfit
    simp [findHandler.go, hx', h0, ha, ht, hcell, hobj, hk1', hk2', hf', VmOp.dirties, VmOp.acts]
  | cons z zs ih =>
    intro S hW hcell hpass
    obtain ⟨k0', hk0', -⟩ := hW.alike.2.2 _ _ hk0
    have hrest : ∀ u ∈ zs, tk_pass e.platform s₀ f.method.cls f.pc cell.cls u := fun u hu => hpass u (List.mem_cons_of_mem _ hu)
    by_cases hcov : covers z f.pc = true
    · rcases hpass z (List.mem_cons_self ..) with h | ⟨hz0, c', hl', hno⟩
      · rw [h] at hcov; cases hcov
      · obtain ⟨dk, _, _, kt, hd, _, _, _, _, hkt, _, hopen⟩ := hl'.here
        obtain ⟨kt', hkt', -⟩ := hW.alike.2.2 _ _ hkt
        obtain ⟨vm', hW', hq⟩ := ih (S.setVm (S.vm.noted f.method.cls z.catchType (.cls c'))) (hW.noted hd hopen (State.rightAt_cls hl')) hcell hrest
        refine ⟨vm', hW', fun Q E b acts => ?_⟩
        have hlS := hW.classLinks hl'
        have hx' : (decide (z.startPc ≤ f.pc) && decide (f.pc < z.endPc)) = true := hcov
        obtain ⟨ha, ht⟩ := (resolveClass_links e.toSetting hlS).op (op := VmOp.resolveClass f.method.cls z.catchType) rfl
        have hal : S.vm.Alike (S.vm.noted f.method.cls z.catchType (.cls c')) := (Vm.Alike.refl S.vm).noted _ _ _
        obtain ⟨k1', hk1', -⟩ := hal.2.2 _ _ hk0'
        obtain ⟨k2', hk2', -⟩ := hal.2.2 _ _ hkt'
        have hf' : (S.vm.noted f.method.cls z.catchType (.cls c')).assignable cell.cls c' = false := by rw [hal.assignable, hW.alike.assignable]; exact hno
        have hone : wp (findHandler.go f a (z :: (zs ++ x :: rest))) Q E e b acts S ↔ wp (findHandler.go f a (zs ++ x :: rest)) Q E e b acts (S.setVm (S.vm.noted f.method.cls z.catchType (.cls c'))) := by
          simp [findHandler.go, hx', hz0, ha, ht, hcell, hobj, hk1', hk2', hf', VmOp.dirties, VmOp.acts]
        rw [List.cons_append, hone]
        exact hq Q E b acts
    · obtain ⟨vm', hW', hq⟩ := ih S hW hcell hrest
      exact ⟨vm', hW', fun Q E b acts => by
        rw [List.cons_append, W.findHandler_go_skip (by simpa using hcov)]
        exact hq Q E b acts⟩
theorem tk_caught {p : Program} {l : Launch} {e : Env} {R : Room} {s : State} {m : MethodId} {args : Array Value} {below : List Frame} {meth : Method} {c : Code} {T : State} {locs : List Loc} {cells slots : Nat} (X : Stand p l e R s m args below meth c T locs cells slots) (a : Addr) {g : JFrame} (hg : g.method = m) {cell : Cell} (hcell : T.heap[a]? = some cell) (hobj : ∀ k, cell.vm ≠ .statics k)
    (hk0 : ∃ k, s.vm.classes[cell.cls]? = some k) (pre : List ExceptionTableEntry) (x : ExceptionTableEntry) (rest : List ExceptionTableEntry) (hsplit : c.exceptionTable.toList = pre ++ x :: rest) (hpass : ∀ z ∈ pre, tk_pass e.platform s m.cls g.pc cell.cls z) (hx : covers x g.pc = true) (h0 : x.catchType ≠ 0) {k : ClassId} (hl : s.vm.ClassLinks e.platform m.cls x.catchType k) (hfit : s.vm.assignable cell.cls k = true) :
    ∃ vm', Stand p l e R s m args below meth c (T.setVm vm') locs cells slots ∧ ∀ target, Steps p.tables e below ((T.setVm vm').setTop { g with pc := x.handlerPc, stack := [.ref a] }) target → Steps p.tables e below ((T.setTop g).pushFrame (.throwing a)) target := by
  subst hg
  obtain ⟨vm', hW', hq⟩ := tk_search (e := e) (f := g) (a := a) (rest := rest) hobj hk0 hx h0 hl hfit pre ((T.setTop g).pushFrame (.throwing a)) (by exact X.warmed) (by exact hcell) hpass
  refine ⟨vm', X.noted hW', fun target hrest => ?_⟩
  have hfind : ∀ (Q : Handler → Pre) (E : CtlPost) (b : Bool) (acts : List Action), wp (findHandler g a) Q E e b acts ((T.setTop g).pushFrame (.throwing a)) ↔ Q (.found x.handlerPc) b acts (((T.setTop g).pushFrame (.throwing a)).setVm vm') := fun Q E b acts => by
    rw [W.findHandler_eq (s := (T.setTop g).pushFrame (.throwing a)) (meth := meth) (code := c) X.method' X.code, hsplit]
    exact hq Q E b acts
  have hstep : ∀ r : List Frame, (stepThrowing e ((T.setTop g).pushFrame (.throwing a)) a (.java g :: r)).Is ((((T.setTop g).pushFrame (.throwing a)).setVm vm').setFrames (.java { g with pc := x.handlerPc, stack := [.ref a] } :: r)) [] := by
    intro r
    simp only [stepThrowing, searchFrame, vmDo]
    generalize hr : Sem.go _ e false [] ((T.setTop g).pushFrame (.throwing a)) = res
    obtain ⟨as, rfl, ha⟩ := Sem.eq_ok_of hr (a := Handler.found x.handlerPc) (s' := ((T.setTop g).pushFrame (.throwing a)).setVm vm') (acts' := []) (by simp [hfind _ _ _ _])
    exact ⟨rfl, ha⟩
  obtain ⟨hgo, hw⟩ := X.here.throwing a
  refine Steps.head hgo hw ?_
  rw [stepThread_throwing (frames_entered X.here.top _), (hstep _).1]
  obtain ⟨g₀, hg0⟩ := Option.isSome_iff_exists.mp X.here.top
  obtain ⟨r, hr⟩ := State.topJava?_eq_some.mp hg0
  have hr' : (T.setVm vm').frames = .java g₀ :: r := hr
  have hcomm : ∀ (u : State) (F G : List Frame), ((u.setFrames F).setVm vm').setFrames G = (u.setVm vm').setFrames G := by
    intro u F G
    have h1 : (u.setFrames F).setVm vm' = (u.setVm vm').setFrames F := rfl
    rw [h1, State.setFrames_setFrames]
  rw [State.setTop_of_frames _ hr'] at hrest
  rw [hr, List.tail_cons, State.pushFrame, hcomm, State.setTop_of_frames _ hr, hcomm]
  exact hrest
/-- a row of the table that lets an exception of the class C by -/
def tk_by (own : String) (pc : Nat) (C : String) (z : Nat × Nat × Nat × Nat) : Prop := (decide (z.1 ≤ pc) && decide (pc < z.2.1)) = false ∨ (z.2.2.2 ≠ 0 ∧ ∃ nm : String, Cond.classLink own z.2.2.2 nm ∈ tk_tbl ∧ Cond.not (.castable C nm) ∈ tk_tbl)
theorem tk_L.st0 {ad : Nat → Nat} {ls : Array Slot} {nL i x : Nat} {lv : List (Option Value)} (hp : tk_pc lv i = true)
    (h : lv_has ls nL ((i, .ref x) :: (tk_pr ad lv).filter (fun q => !(q.1 == i) && !(q.1 + 1 == i && q.2.category == 2)))) : tk_L ad ls nL (lv.set i none) := by
  refine ⟨h.1, h.2.1, fun j u hj => ?_⟩
  rw [List.getElem?_set] at hj
  by_cases e : i = j
  · subst e
    rw [if_pos rfl] at hj
    split at hj <;> cases hj
  · rw [if_neg e] at hj
    refine h.2.2 (j, tk_v ad u) (List.mem_cons_of_mem _ (List.mem_filter.mpr ⟨tk_pr_in hj, ?_⟩))
    have h1 : (j == i) = false := by simpa using Ne.symm e
    by_cases h2 : j + 1 = i
    · have hc := tk_pc_at hp h2 hj
      simp [h1, tk_cat, hc]
    · simp [h1, h2]
section TKK
variable {y : MethodName} {cc : ByteArray} {nL : Nat} {rt : Option FieldType} {hh : List (Nat × Nat × Nat × Nat)} {d kc ks : Nat} {ro : Nat → Option (Nat × (Nat → Int32))} {cells slots : Nat} {Q : tk_R → tk_W → Prop} {pc : Nat} {lv : List (Option Value)} {rest : List Value} {w : tk_W}
/-- caught by the row (a0, a1, hp, ct); the handler begins with the store of the exception -/
theorem tk_X.catch {C nm : String} {pre suf : List (Nat × Nat × Nat × Nat)} {a0 a1 hp ct i len : Nat} (hsp : hh = pre ++ (a0, a1, hp, ct) :: suf) (hby : ∀ z ∈ pre, tk_by y.cls pc C z) (hcv : (decide (a0 ≤ pc) && decide (pc < a1)) = true) (hct : ct ≠ 0) (hlk9 : Cond.classLink y.cls ct nm ∈ tk_tbl) (hcast : Cond.castable C nm ∈ tk_tbl)
    (hst9 : (∃ k : Fin 4, decode cc hp = .ok (.astore_n k, 1) ∧ (k : Nat) = i ∧ len = 1) ∨ (decode cc hp = .ok (.astore i, 2) ∧ len = 2)) (hpc : tk_pc lv i = true) (hi : i < nL)
    (kk : tk_T y cc nL rt hh d kc ks ro cells slots Q (hp + len) (lv.set i none) [] w) : tk_X y cc nL rt hh d kc ks ro cells slots Q pc lv C w := by
  intro p l e s m args below meth c D dA A ad0 n0 I ad H locs ls st g1 g2 g3 g4 g5 g6 g7 x ce hce hcv9 hcl T hT X
  obtain ⟨hx, hb, hml, hr', hlk, hnm, hown, hex, hts, hK, hA, hTh, hns, hst, hro⟩ := id I
  have hpl : e.platform.magicAccessors = ({} : Platform).magicAccessors := by rw [X.admits.platform]
  obtain ⟨c3, c4, hc3, hc4, hasg⟩ := Cond.castable_spec (hts _ hcast args)
  cases Option.some.inj (hc3.symm.trans hcl)
  obtain ⟨c5, hc5, hcl5⟩ := Cond.classLink_spec hown (hts _ hlk9 args) e.platform hpl
  cases Option.some.inj (hc4.symm.trans hc5)
  rw [hsp] at hex
  obtain ⟨tp, ts, htab, htp, hts9⟩ := List.map_eq_append_iff.mp hex
  obtain ⟨z, zs, rfl, hz, hzs⟩ := List.map_eq_cons_iff.mp hts9
  have e1 : z.startPc = a0 := congrArg (·.1) hz
  have e2 : z.endPc = a1 := congrArg (·.2.1) hz
  have e3 : z.handlerPc = hp := congrArg (·.2.2.1) hz
  have e4 : z.catchType = ct := congrArg (·.2.2.2) hz
  have hpass : ∀ u ∈ tp, tk_pass e.platform s m.cls (F0 m pc ls st).pc ce.cls u := by
    intro u hu
    rcases hby (u.startPc, u.endPc, u.handlerPc, u.catchType) (by rw [← htp]; exact List.mem_map.mpr ⟨u, hu, rfl⟩) with h | ⟨h0, n9, hl9, hno⟩
    · exact Or.inl h
    · obtain ⟨c6, hc6, hcl6⟩ := Cond.classLink_spec hown (hts _ hl9 args) e.platform hpl
      have hv := Cond.holds_not_iff.mp (hts _ hno args)
      simp only [Cond.value, hcl, hc6] at hv
      exact Or.inr ⟨h0, c6, hcl6, Option.some.inj hv⟩
  obtain ⟨vm', X', hgo⟩ := tk_caught X x (g := F0 m pc ls st) rfl (cell := ce) (by rw [hT]; exact hce) (fun k h => by rw [hcv9] at h; cases h) (by obtain ⟨k9, h9, -⟩ := Vm.findClass_spec hcl; exact ⟨k9, h9⟩) tp z zs htab hpass (by show (decide (z.startPc ≤ pc) && decide (pc < z.endPc)) = true; rw [e1, e2]; exact hcv) (by rw [e4]; exact hct) (by rw [e4]; exact hcl5) hasg
  have hW : W p l e (tk_rm d kc ks) s m args below meth c H locs cells slots (tk_Z below D dA A ad0 n0 s kc ks Q) (F0 m hp ls [.ref x]) := by
    rcases hst9 with ⟨k, hd9, hk9, rfl⟩ | ⟨hd9, rfl⟩
    · exact lv_astore_n hx hb hd9 hk9 g7.has hi rfl (fun ls' h' => kk p l e s m args below meth c D dA A ad0 n0 I ad H locs ls' g1 g2 g3 g4 g5 g6 (tk_L.st0 hpc h'))
    · exact lv_astore hx hb hd9 g7.has hi rfl (fun ls' h' => kk p l e s m args below meth c D dA A ad0 n0 I ad H locs ls' g1 g2 g3 g4 g5 g6 (tk_L.st0 hpc h'))
  obtain ⟨t, a9, b9⟩ := hW (T.setVm vm') hT X'
  refine ⟨t, hgo t ?_, b9⟩
  have : ({ F0 m pc ls st with pc := z.handlerPc, stack := [.ref x] } : JFrame) = F0 m hp ls [.ref x] := by rw [e3]
  rw [this]
  exact a9
end TKK
end
section
/-! ===== contracts that name their end ===== -/
def tk_det (r0 : tk_R) (w1 : tk_W) : tk_R → tk_W → Prop := fun r x => r = r0 ∧ x = w1
theorem tk_M.mono {y : MethodName} {cw : Cond} {d kc ks : Nat} {as : List Value} {w : tk_W} {Q Q' : tk_R → tk_W → Prop} (h : ∀ r x, Q' r x → Q r x) (k : tk_M y cw d kc ks as w Q') : tk_M y cw d kc ks as w Q := by
  intro l hl D dA ad p e ha hc hk s m args below hf happ hP hK
  obtain ⟨n, o, h1, h2, h3, h4, h5, r, ad', w', h6, h7⟩ := k l hl D dA ad p e ha hc hk s m args below hf happ hP hK
  exact ⟨n, o, h1, h2, h3, h4, h5, r, ad', w', h _ _ h6, h7⟩
section TKD
variable {y : MethodName} {cc : ByteArray} {nL : Nat} {rt : Option FieldType} {hh : List (Nat × Nat × Nat × Nat)} {d kc ks : Nat} {ro : Nat → Option (Nat × (Nat → Int32))} {cells slots : Nat} {Q : tk_R → tk_W → Prop} {pc : Nat} {lv : List (Option Value)} {rest : List Value} {w w1 : tk_W}
variable {y' : MethodName} {cw : Cond} {nL' n' d' kc' ks' idx : Nat} {as st : List Value} {Q' : tk_R → tk_W → Prop}
/-- a call that returns v, with the world w1 -/
theorem tk_callSr {v : Option Value} (hd : decode cc pc = .ok (.invokestatic idx, 3)) (hl : tk_ML y.cls idx y') (hC : tk_CS y' cw nL' n') (hM : tk_M y' cw d' kc' ks' as w (tk_det (.inl v) w1)) (hw : w1.length = w.length) (hdd : d' < d) (hkc : cells + kc' ≤ kc) (hks : slots + ks' ≤ ks) (hrest : (rest.map fun v => v.category).sum ≤ 8) (hn : as.length = n') (hst : as.reverse ++ rest = st)
    (kr : tk_T y cc nL rt hh d kc ks ro (cells + kc') (slots + ks') Q (pc + 3) lv (v.toList ++ rest) w1) : tk_T y cc nL rt hh d kc ks ro cells slots Q pc lv st w := by
  refine tk_callS hd hl hC hM hdd hkc hks hrest hn hst ?_ ?_ ?_
  · rintro r x ⟨-, rfl⟩
    exact tk_kps_same hw
  · rintro r x ⟨h1, rfl⟩
    cases h1
    exact kr
  · rintro C x ⟨h1, -⟩
    cases h1
/-- a call that throws, where no handler stands -/
theorem tk_callSx {C : String} (hd : decode cc pc = .ok (.invokestatic idx, 3)) (hl : tk_ML y.cls idx y') (hC : tk_CS y' cw nL' n') (hM : tk_M y' cw d' kc' ks' as w (tk_det (.inr C) w1)) (hw : w1.length = w.length) (hdd : d' < d) (hkc : cells + kc' ≤ kc) (hks : slots + ks' ≤ ks) (hrest : (rest.map fun v => v.category).sum ≤ 8) (hn : as.length = n') (hst : as.reverse ++ rest = st)
    (hout : ∀ x ∈ hh, (decide (x.1 ≤ pc) && decide (pc < x.2.1)) = false) (q : Q (.inr C) w1) : tk_T y cc nL rt hh d kc ks ro cells slots Q pc lv st w := by
  refine tk_callS hd hl hC hM hdd hkc hks hrest hn hst ?_ ?_ ?_
  · rintro r x ⟨-, rfl⟩
    exact tk_kps_same hw
  · rintro r x ⟨h1, -⟩
    cases h1
  · rintro C x ⟨h1, rfl⟩
    cases h1
    exact tk_X.out hout hkc hks q
theorem tk_callVr {b ci : Nat} {fs : List Value} {q : vw_C} {v : Option Value} (hd : decode cc pc = .ok (.invokevirtual idx, 3)) (hl : tk_ML y.cls idx y') (hC : tk_CV y' cw nL' n') (hb : w[b]? = some (.inr (ci, fs))) (hq : tk_cl[ci]? = some q) (hq1 : q.1 = y'.cls) (hM : tk_M y' cw d' kc' ks' (.ref b :: as) w (tk_det (.inl v) w1)) (hw : w1.length = w.length) (hdd : d' < d) (hkc : cells + kc' ≤ kc) (hks : slots + ks' ≤ ks) (hrest : (rest.map fun v => v.category).sum ≤ 8) (hn : as.length = n') (hst : as.reverse ++ .ref b :: rest = st)
    (kr : tk_T y cc nL rt hh d kc ks ro (cells + kc') (slots + ks') Q (pc + 3) lv (v.toList ++ rest) w1) : tk_T y cc nL rt hh d kc ks ro cells slots Q pc lv st w := by
  refine tk_callV hd hl hC hb hq hq1 hM hdd hkc hks hrest hn hst ?_ ?_ ?_
  · rintro r x ⟨-, rfl⟩
    exact tk_kps_same hw
  · rintro r x ⟨h1, rfl⟩
    cases h1
    exact kr
  · rintro C x ⟨h1, -⟩
    cases h1
/-- a call that returns, with an answer and a world that Q' allows; as long as it was -/
theorem tk_callVq {b ci : Nat} {fs : List Value} {q : vw_C} (hd : decode cc pc = .ok (.invokevirtual idx, 3)) (hl : tk_ML y.cls idx y') (hC : tk_CV y' cw nL' n') (hb : w[b]? = some (.inr (ci, fs))) (hq : tk_cl[ci]? = some q) (hq1 : q.1 = y'.cls) (hM : tk_M y' cw d' kc' ks' (.ref b :: as) w Q') (hw : ∀ r x, Q' r x → x.length = w.length ∧ ∃ v, r = .inl v) (hdd : d' < d) (hkc : cells + kc' ≤ kc) (hks : slots + ks' ≤ ks) (hrest : (rest.map fun v => v.category).sum ≤ 8) (hn : as.length = n') (hst : as.reverse ++ .ref b :: rest = st)
    (kr : ∀ r x, Q' (.inl r) x → tk_T y cc nL rt hh d kc ks ro (cells + kc') (slots + ks') Q (pc + 3) lv (r.toList ++ rest) x) : tk_T y cc nL rt hh d kc ks ro cells slots Q pc lv st w := by
  refine tk_callV hd hl hC hb hq hq1 hM hdd hkc hks hrest hn hst ?_ kr ?_
  · intro r x h
    exact tk_kps_same (hw r x h).1
  · intro C x h
    obtain ⟨-, v, hv⟩ := hw _ _ h
    cases hv
end TKD
end
section
theorem i_CP : ∀ w ∈ u_ws R_CP F_CP 4, w ∈ tk_tbl := tk_all (by decide +kernel) (by decide +kernel)
theorem p_CP_0 : tk_FP 0 0 (.object "ChargePlans$Goods") true := ⟨R_CP, F_CP, 4, t_CP, rfl, t_CP_ok, n_CP, rfl, by decide +kernel, rfl⟩
theorem p_CP_1 : tk_FP 0 1 (.object "ChargePlans$Heats") true := ⟨R_CP, F_CP, 4, t_CP, rfl, t_CP_ok, n_CP, rfl, by decide +kernel, rfl⟩
theorem p_CP_2 : tk_FP 0 2 (.object "ChargePlans$Planning") true := ⟨R_CP, F_CP, 4, t_CP, rfl, t_CP_ok, n_CP, rfl, by decide +kernel, rfl⟩
theorem p_CP_3 : tk_FP 0 3 (.object "ChargePlans$Clashing") true := ⟨R_CP, F_CP, 4, t_CP, rfl, t_CP_ok, n_CP, rfl, by decide +kernel, rfl⟩
theorem i_G : ∀ w ∈ u_ws R_G F_G 7, w ∈ tk_tbl := tk_all (by decide +kernel) (by decide +kernel)
theorem p_G_0 : tk_FP 1 0 (.int) false := ⟨R_G, F_G, 7, t_G, rfl, t_G_ok, n_G, rfl, by decide +kernel, rfl⟩
theorem p_G_1 : tk_FP 1 1 (.array .int) true := ⟨R_G, F_G, 7, t_G, rfl, t_G_ok, n_G, rfl, by decide +kernel, rfl⟩
theorem p_G_2 : tk_FP 1 2 (.array .int) true := ⟨R_G, F_G, 7, t_G, rfl, t_G_ok, n_G, rfl, by decide +kernel, rfl⟩
theorem p_G_3 : tk_FP 1 3 (.array .int) true := ⟨R_G, F_G, 7, t_G, rfl, t_G_ok, n_G, rfl, by decide +kernel, rfl⟩
theorem p_G_4 : tk_FP 1 4 (.array .int) true := ⟨R_G, F_G, 7, t_G, rfl, t_G_ok, n_G, rfl, by decide +kernel, rfl⟩
theorem p_G_5 : tk_FP 1 5 (.array .int) true := ⟨R_G, F_G, 7, t_G, rfl, t_G_ok, n_G, rfl, by decide +kernel, rfl⟩
theorem p_G_6 : tk_FP 1 6 (.array .int) true := ⟨R_G, F_G, 7, t_G, rfl, t_G_ok, n_G, rfl, by decide +kernel, rfl⟩
theorem i_H : ∀ w ∈ u_ws R_H F_H 8, w ∈ tk_tbl := tk_all (by decide +kernel) (by decide +kernel)
theorem p_H_0 : tk_FP 2 0 (.int) false := ⟨R_H, F_H, 8, t_H, rfl, t_H_ok, n_H, rfl, by decide +kernel, rfl⟩
theorem p_H_1 : tk_FP 2 1 (.array .int) true := ⟨R_H, F_H, 8, t_H, rfl, t_H_ok, n_H, rfl, by decide +kernel, rfl⟩
theorem p_H_2 : tk_FP 2 2 (.array .int) true := ⟨R_H, F_H, 8, t_H, rfl, t_H_ok, n_H, rfl, by decide +kernel, rfl⟩
theorem p_H_3 : tk_FP 2 3 (.array .int) true := ⟨R_H, F_H, 8, t_H, rfl, t_H_ok, n_H, rfl, by decide +kernel, rfl⟩
theorem p_H_4 : tk_FP 2 4 (.array .int) true := ⟨R_H, F_H, 8, t_H, rfl, t_H_ok, n_H, rfl, by decide +kernel, rfl⟩
theorem p_H_5 : tk_FP 2 5 (.array .int) true := ⟨R_H, F_H, 8, t_H, rfl, t_H_ok, n_H, rfl, by decide +kernel, rfl⟩
theorem p_H_6 : tk_FP 2 6 (.array .int) true := ⟨R_H, F_H, 8, t_H, rfl, t_H_ok, n_H, rfl, by decide +kernel, rfl⟩
theorem p_H_7 : tk_FP 2 7 (.array .int) true := ⟨R_H, F_H, 8, t_H, rfl, t_H_ok, n_H, rfl, by decide +kernel, rfl⟩
theorem i_P : ∀ w ∈ u_ws R_P F_P 8, w ∈ tk_tbl := tk_all (by decide +kernel) (by decide +kernel)
theorem p_P_0 : tk_FP 3 0 (.object "ChargePlans$Sums") true := ⟨R_P, F_P, 8, t_P, rfl, t_P_ok, n_P, rfl, by decide +kernel, rfl⟩
theorem p_P_1 : tk_FP 3 1 (.array .int) true := ⟨R_P, F_P, 8, t_P, rfl, t_P_ok, n_P, rfl, by decide +kernel, rfl⟩
theorem p_P_2 : tk_FP 3 2 (.array .int) true := ⟨R_P, F_P, 8, t_P, rfl, t_P_ok, n_P, rfl, by decide +kernel, rfl⟩
theorem p_P_3 : tk_FP 3 3 (.int) false := ⟨R_P, F_P, 8, t_P, rfl, t_P_ok, n_P, rfl, by decide +kernel, rfl⟩
theorem p_P_4 : tk_FP 3 4 (.int) false := ⟨R_P, F_P, 8, t_P, rfl, t_P_ok, n_P, rfl, by decide +kernel, rfl⟩
theorem p_P_5 : tk_FP 3 5 (.int) false := ⟨R_P, F_P, 8, t_P, rfl, t_P_ok, n_P, rfl, by decide +kernel, rfl⟩
theorem p_P_6 : tk_FP 3 6 (.boolean) false := ⟨R_P, F_P, 8, t_P, rfl, t_P_ok, n_P, rfl, by decide +kernel, rfl⟩
theorem p_P_7 : tk_FP 3 7 (.boolean) false := ⟨R_P, F_P, 8, t_P, rfl, t_P_ok, n_P, rfl, by decide +kernel, rfl⟩
theorem i_S : ∀ w ∈ u_ws R_S F_S 4, w ∈ tk_tbl := tk_all (by decide +kernel) (by decide +kernel)
theorem p_S_0 : tk_FP 4 0 (.int) false := ⟨R_S, F_S, 4, t_S, rfl, t_S_ok, n_S, rfl, by decide +kernel, rfl⟩
theorem p_S_1 : tk_FP 4 1 (.array .int) true := ⟨R_S, F_S, 4, t_S, rfl, t_S_ok, n_S, rfl, by decide +kernel, rfl⟩
theorem p_S_2 : tk_FP 4 2 (.array .int) true := ⟨R_S, F_S, 4, t_S, rfl, t_S_ok, n_S, rfl, by decide +kernel, rfl⟩
theorem p_S_3 : tk_FP 4 3 (.array .int) true := ⟨R_S, F_S, 4, t_S, rfl, t_S_ok, n_S, rfl, by decide +kernel, rfl⟩
theorem i_C : ∀ w ∈ u_ws R_C F_C 3, w ∈ tk_tbl := tk_all (by decide +kernel) (by decide +kernel)
theorem p_C_0 : tk_FP 5 0 (.object "ChargePlans$Sums") true := ⟨R_C, F_C, 3, t_C, rfl, t_C_ok, n_C, rfl, by decide +kernel, rfl⟩
theorem p_C_1 : tk_FP 5 1 (.array .long) true := ⟨R_C, F_C, 3, t_C, rfl, t_C_ok, n_C, rfl, by decide +kernel, rfl⟩
theorem p_C_2 : tk_FP 5 2 (.boolean) false := ⟨R_C, F_C, 3, t_C, rfl, t_C_ok, n_C, rfl, by decide +kernel, rfl⟩
theorem i_M : ∀ w ∈ u_ws R_M F_M 21, w ∈ tk_tbl := tk_all (by decide +kernel) (by decide +kernel)
theorem p_M_0 : tk_FP 6 0 (.int) false := ⟨R_M, F_M, 21, t_M, rfl, t_M_ok, n_M, rfl, by decide +kernel, rfl⟩
theorem p_M_1 : tk_FP 6 1 (.int) false := ⟨R_M, F_M, 21, t_M, rfl, t_M_ok, n_M, rfl, by decide +kernel, rfl⟩
theorem p_M_2 : tk_FP 6 2 (.array .int) true := ⟨R_M, F_M, 21, t_M, rfl, t_M_ok, n_M, rfl, by decide +kernel, rfl⟩
theorem p_M_3 : tk_FP 6 3 (.array .int) true := ⟨R_M, F_M, 21, t_M, rfl, t_M_ok, n_M, rfl, by decide +kernel, rfl⟩
theorem p_M_4 : tk_FP 6 4 (.array .int) true := ⟨R_M, F_M, 21, t_M, rfl, t_M_ok, n_M, rfl, by decide +kernel, rfl⟩
theorem p_M_5 : tk_FP 6 5 (.array .int) true := ⟨R_M, F_M, 21, t_M, rfl, t_M_ok, n_M, rfl, by decide +kernel, rfl⟩
theorem p_M_6 : tk_FP 6 6 (.array .int) true := ⟨R_M, F_M, 21, t_M, rfl, t_M_ok, n_M, rfl, by decide +kernel, rfl⟩
theorem p_M_7 : tk_FP 6 7 (.array .int) true := ⟨R_M, F_M, 21, t_M, rfl, t_M_ok, n_M, rfl, by decide +kernel, rfl⟩
theorem p_M_8 : tk_FP 6 8 (.int) false := ⟨R_M, F_M, 21, t_M, rfl, t_M_ok, n_M, rfl, by decide +kernel, rfl⟩
theorem p_M_9 : tk_FP 6 9 (.array .int) true := ⟨R_M, F_M, 21, t_M, rfl, t_M_ok, n_M, rfl, by decide +kernel, rfl⟩
theorem p_M_10 : tk_FP 6 10 (.array .int) true := ⟨R_M, F_M, 21, t_M, rfl, t_M_ok, n_M, rfl, by decide +kernel, rfl⟩
theorem p_M_11 : tk_FP 6 11 (.array .int) true := ⟨R_M, F_M, 21, t_M, rfl, t_M_ok, n_M, rfl, by decide +kernel, rfl⟩
theorem p_M_12 : tk_FP 6 12 (.array .int) true := ⟨R_M, F_M, 21, t_M, rfl, t_M_ok, n_M, rfl, by decide +kernel, rfl⟩
theorem p_M_13 : tk_FP 6 13 (.array .int) true := ⟨R_M, F_M, 21, t_M, rfl, t_M_ok, n_M, rfl, by decide +kernel, rfl⟩
theorem p_M_14 : tk_FP 6 14 (.array .int) true := ⟨R_M, F_M, 21, t_M, rfl, t_M_ok, n_M, rfl, by decide +kernel, rfl⟩
theorem p_M_15 : tk_FP 6 15 (.array .int) true := ⟨R_M, F_M, 21, t_M, rfl, t_M_ok, n_M, rfl, by decide +kernel, rfl⟩
theorem p_M_16 : tk_FP 6 16 (.boolean) false := ⟨R_M, F_M, 21, t_M, rfl, t_M_ok, n_M, rfl, by decide +kernel, rfl⟩
theorem p_M_17 : tk_FP 6 17 (.boolean) false := ⟨R_M, F_M, 21, t_M, rfl, t_M_ok, n_M, rfl, by decide +kernel, rfl⟩
theorem p_M_18 : tk_FP 6 18 (.int) false := ⟨R_M, F_M, 21, t_M, rfl, t_M_ok, n_M, rfl, by decide +kernel, rfl⟩
theorem p_M_19 : tk_FP 6 19 (.array .int) true := ⟨R_M, F_M, 21, t_M, rfl, t_M_ok, n_M, rfl, by decide +kernel, rfl⟩
theorem p_M_20 : tk_FP 6 20 (.array .boolean) true := ⟨R_M, F_M, 21, t_M, rfl, t_M_ok, n_M, rfl, by decide +kernel, rfl⟩
theorem f_G_30 : tk_F "ChargePlans$Goods" 30 1 0 := ⟨R_G, F_G, 7, rfl, by decide, i_G, Or.inl (tk_at 30 (by decide +kernel) (by decide +kernel))⟩
theorem g_G_30 : tk_FF "ChargePlans$Goods" 30 1 0 := ⟨R_G, F_G, 7, rfl, by decide, i_G, tk_at 30 (by decide +kernel) (by decide +kernel), rfl⟩
theorem f_S_21 : tk_F "ChargePlans$Sums" 21 1 0 := ⟨R_G, F_G, 7, rfl, by decide, i_G, Or.inr ⟨"ChargePlans", tk_at 31 (by decide +kernel) (by decide +kernel)⟩⟩
theorem f_CP_37 : tk_F "ChargePlans" 37 1 0 := ⟨R_G, F_G, 7, rfl, by decide, i_G, Or.inr ⟨"ChargePlans", tk_at 32 (by decide +kernel) (by decide +kernel)⟩⟩
theorem f_G_9 : tk_F "ChargePlans$Goods" 9 1 1 := ⟨R_G, F_G, 7, rfl, by decide, i_G, Or.inl (tk_at 33 (by decide +kernel) (by decide +kernel))⟩
theorem g_G_9 : tk_FF "ChargePlans$Goods" 9 1 1 := ⟨R_G, F_G, 7, rfl, by decide, i_G, tk_at 33 (by decide +kernel) (by decide +kernel), rfl⟩
theorem f_S_44 : tk_F "ChargePlans$Sums" 44 1 1 := ⟨R_G, F_G, 7, rfl, by decide, i_G, Or.inr ⟨"ChargePlans", tk_at 34 (by decide +kernel) (by decide +kernel)⟩⟩
theorem f_CP_135 : tk_F "ChargePlans" 135 1 1 := ⟨R_G, F_G, 7, rfl, by decide, i_G, Or.inr ⟨"ChargePlans", tk_at 35 (by decide +kernel) (by decide +kernel)⟩⟩
theorem f_G_15 : tk_F "ChargePlans$Goods" 15 1 2 := ⟨R_G, F_G, 7, rfl, by decide, i_G, Or.inl (tk_at 36 (by decide +kernel) (by decide +kernel))⟩
theorem g_G_15 : tk_FF "ChargePlans$Goods" 15 1 2 := ⟨R_G, F_G, 7, rfl, by decide, i_G, tk_at 36 (by decide +kernel) (by decide +kernel), rfl⟩
theorem f_S_47 : tk_F "ChargePlans$Sums" 47 1 2 := ⟨R_G, F_G, 7, rfl, by decide, i_G, Or.inr ⟨"ChargePlans", tk_at 37 (by decide +kernel) (by decide +kernel)⟩⟩
theorem f_CP_145 : tk_F "ChargePlans" 145 1 2 := ⟨R_G, F_G, 7, rfl, by decide, i_G, Or.inr ⟨"ChargePlans", tk_at 38 (by decide +kernel) (by decide +kernel)⟩⟩
theorem f_G_18 : tk_F "ChargePlans$Goods" 18 1 3 := ⟨R_G, F_G, 7, rfl, by decide, i_G, Or.inl (tk_at 39 (by decide +kernel) (by decide +kernel))⟩
theorem g_G_18 : tk_FF "ChargePlans$Goods" 18 1 3 := ⟨R_G, F_G, 7, rfl, by decide, i_G, tk_at 39 (by decide +kernel) (by decide +kernel), rfl⟩
theorem f_CP_75 : tk_F "ChargePlans" 75 1 3 := ⟨R_G, F_G, 7, rfl, by decide, i_G, Or.inr ⟨"ChargePlans", tk_at 40 (by decide +kernel) (by decide +kernel)⟩⟩
theorem f_G_21 : tk_F "ChargePlans$Goods" 21 1 4 := ⟨R_G, F_G, 7, rfl, by decide, i_G, Or.inl (tk_at 41 (by decide +kernel) (by decide +kernel))⟩
theorem g_G_21 : tk_FF "ChargePlans$Goods" 21 1 4 := ⟨R_G, F_G, 7, rfl, by decide, i_G, tk_at 41 (by decide +kernel) (by decide +kernel), rfl⟩
theorem f_CP_69 : tk_F "ChargePlans" 69 1 4 := ⟨R_G, F_G, 7, rfl, by decide, i_G, Or.inr ⟨"ChargePlans", tk_at 42 (by decide +kernel) (by decide +kernel)⟩⟩
theorem f_G_24 : tk_F "ChargePlans$Goods" 24 1 5 := ⟨R_G, F_G, 7, rfl, by decide, i_G, Or.inl (tk_at 43 (by decide +kernel) (by decide +kernel))⟩
theorem g_G_24 : tk_FF "ChargePlans$Goods" 24 1 5 := ⟨R_G, F_G, 7, rfl, by decide, i_G, tk_at 43 (by decide +kernel) (by decide +kernel), rfl⟩
theorem f_CP_62 : tk_F "ChargePlans" 62 1 5 := ⟨R_G, F_G, 7, rfl, by decide, i_G, Or.inr ⟨"ChargePlans", tk_at 44 (by decide +kernel) (by decide +kernel)⟩⟩
theorem f_S_61 : tk_F "ChargePlans$Sums" 61 1 5 := ⟨R_G, F_G, 7, rfl, by decide, i_G, Or.inr ⟨"ChargePlans", tk_at 45 (by decide +kernel) (by decide +kernel)⟩⟩
theorem f_G_27 : tk_F "ChargePlans$Goods" 27 1 6 := ⟨R_G, F_G, 7, rfl, by decide, i_G, Or.inl (tk_at 46 (by decide +kernel) (by decide +kernel))⟩
theorem g_G_27 : tk_FF "ChargePlans$Goods" 27 1 6 := ⟨R_G, F_G, 7, rfl, by decide, i_G, tk_at 46 (by decide +kernel) (by decide +kernel), rfl⟩
theorem f_CP_66 : tk_F "ChargePlans" 66 1 6 := ⟨R_G, F_G, 7, rfl, by decide, i_G, Or.inr ⟨"ChargePlans", tk_at 47 (by decide +kernel) (by decide +kernel)⟩⟩
theorem f_S_54 : tk_F "ChargePlans$Sums" 54 1 6 := ⟨R_G, F_G, 7, rfl, by decide, i_G, Or.inr ⟨"ChargePlans", tk_at 48 (by decide +kernel) (by decide +kernel)⟩⟩
theorem f_H_33 : tk_F "ChargePlans$Heats" 33 2 0 := ⟨R_H, F_H, 8, rfl, by decide, i_H, Or.inl (tk_at 71 (by decide +kernel) (by decide +kernel))⟩
theorem g_H_33 : tk_FF "ChargePlans$Heats" 33 2 0 := ⟨R_H, F_H, 8, rfl, by decide, i_H, tk_at 71 (by decide +kernel) (by decide +kernel), rfl⟩
theorem f_CP_81 : tk_F "ChargePlans" 81 2 0 := ⟨R_H, F_H, 8, rfl, by decide, i_H, Or.inr ⟨"ChargePlans", tk_at 72 (by decide +kernel) (by decide +kernel)⟩⟩
theorem f_H_9 : tk_F "ChargePlans$Heats" 9 2 1 := ⟨R_H, F_H, 8, rfl, by decide, i_H, Or.inl (tk_at 73 (by decide +kernel) (by decide +kernel))⟩
theorem g_H_9 : tk_FF "ChargePlans$Heats" 9 2 1 := ⟨R_H, F_H, 8, rfl, by decide, i_H, tk_at 73 (by decide +kernel) (by decide +kernel), rfl⟩
theorem f_S_30 : tk_F "ChargePlans$Sums" 30 2 1 := ⟨R_H, F_H, 8, rfl, by decide, i_H, Or.inr ⟨"ChargePlans", tk_at 74 (by decide +kernel) (by decide +kernel)⟩⟩
theorem f_CP_142 : tk_F "ChargePlans" 142 2 1 := ⟨R_H, F_H, 8, rfl, by decide, i_H, Or.inr ⟨"ChargePlans", tk_at 75 (by decide +kernel) (by decide +kernel)⟩⟩
theorem f_H_15 : tk_F "ChargePlans$Heats" 15 2 2 := ⟨R_H, F_H, 8, rfl, by decide, i_H, Or.inl (tk_at 76 (by decide +kernel) (by decide +kernel))⟩
theorem g_H_15 : tk_FF "ChargePlans$Heats" 15 2 2 := ⟨R_H, F_H, 8, rfl, by decide, i_H, tk_at 76 (by decide +kernel) (by decide +kernel), rfl⟩
theorem f_S_35 : tk_F "ChargePlans$Sums" 35 2 2 := ⟨R_H, F_H, 8, rfl, by decide, i_H, Or.inr ⟨"ChargePlans", tk_at 77 (by decide +kernel) (by decide +kernel)⟩⟩
theorem f_H_18 : tk_F "ChargePlans$Heats" 18 2 3 := ⟨R_H, F_H, 8, rfl, by decide, i_H, Or.inl (tk_at 78 (by decide +kernel) (by decide +kernel))⟩
theorem g_H_18 : tk_FF "ChargePlans$Heats" 18 2 3 := ⟨R_H, F_H, 8, rfl, by decide, i_H, tk_at 78 (by decide +kernel) (by decide +kernel), rfl⟩
theorem f_S_58 : tk_F "ChargePlans$Sums" 58 2 3 := ⟨R_H, F_H, 8, rfl, by decide, i_H, Or.inr ⟨"ChargePlans", tk_at 79 (by decide +kernel) (by decide +kernel)⟩⟩
theorem f_CP_85 : tk_F "ChargePlans" 85 2 3 := ⟨R_H, F_H, 8, rfl, by decide, i_H, Or.inr ⟨"ChargePlans", tk_at 80 (by decide +kernel) (by decide +kernel)⟩⟩
theorem f_H_21 : tk_F "ChargePlans$Heats" 21 2 4 := ⟨R_H, F_H, 8, rfl, by decide, i_H, Or.inl (tk_at 81 (by decide +kernel) (by decide +kernel))⟩
theorem g_H_21 : tk_FF "ChargePlans$Heats" 21 2 4 := ⟨R_H, F_H, 8, rfl, by decide, i_H, tk_at 81 (by decide +kernel) (by decide +kernel), rfl⟩
theorem f_S_57 : tk_F "ChargePlans$Sums" 57 2 4 := ⟨R_H, F_H, 8, rfl, by decide, i_H, Or.inr ⟨"ChargePlans", tk_at 82 (by decide +kernel) (by decide +kernel)⟩⟩
theorem f_CP_86 : tk_F "ChargePlans" 86 2 4 := ⟨R_H, F_H, 8, rfl, by decide, i_H, Or.inr ⟨"ChargePlans", tk_at 83 (by decide +kernel) (by decide +kernel)⟩⟩
theorem f_H_24 : tk_F "ChargePlans$Heats" 24 2 5 := ⟨R_H, F_H, 8, rfl, by decide, i_H, Or.inl (tk_at 84 (by decide +kernel) (by decide +kernel))⟩
theorem g_H_24 : tk_FF "ChargePlans$Heats" 24 2 5 := ⟨R_H, F_H, 8, rfl, by decide, i_H, tk_at 84 (by decide +kernel) (by decide +kernel), rfl⟩
theorem f_S_38 : tk_F "ChargePlans$Sums" 38 2 5 := ⟨R_H, F_H, 8, rfl, by decide, i_H, Or.inr ⟨"ChargePlans", tk_at 85 (by decide +kernel) (by decide +kernel)⟩⟩
theorem f_CP_87 : tk_F "ChargePlans" 87 2 5 := ⟨R_H, F_H, 8, rfl, by decide, i_H, Or.inr ⟨"ChargePlans", tk_at 86 (by decide +kernel) (by decide +kernel)⟩⟩
theorem f_H_27 : tk_F "ChargePlans$Heats" 27 2 6 := ⟨R_H, F_H, 8, rfl, by decide, i_H, Or.inl (tk_at 87 (by decide +kernel) (by decide +kernel))⟩
theorem g_H_27 : tk_FF "ChargePlans$Heats" 27 2 6 := ⟨R_H, F_H, 8, rfl, by decide, i_H, tk_at 87 (by decide +kernel) (by decide +kernel), rfl⟩
theorem f_CP_160 : tk_F "ChargePlans" 160 2 6 := ⟨R_H, F_H, 8, rfl, by decide, i_H, Or.inr ⟨"ChargePlans", tk_at 88 (by decide +kernel) (by decide +kernel)⟩⟩
theorem f_H_30 : tk_F "ChargePlans$Heats" 30 2 7 := ⟨R_H, F_H, 8, rfl, by decide, i_H, Or.inl (tk_at 89 (by decide +kernel) (by decide +kernel))⟩
theorem g_H_30 : tk_FF "ChargePlans$Heats" 30 2 7 := ⟨R_H, F_H, 8, rfl, by decide, i_H, tk_at 89 (by decide +kernel) (by decide +kernel), rfl⟩
theorem f_CP_118 : tk_F "ChargePlans" 118 2 7 := ⟨R_H, F_H, 8, rfl, by decide, i_H, Or.inr ⟨"ChargePlans", tk_at 90 (by decide +kernel) (by decide +kernel)⟩⟩
theorem f_S_27 : tk_F "ChargePlans$Sums" 27 4 0 := ⟨R_S, F_S, 4, rfl, by decide, i_S, Or.inl (tk_at 120 (by decide +kernel) (by decide +kernel))⟩
theorem g_S_27 : tk_FF "ChargePlans$Sums" 27 4 0 := ⟨R_S, F_S, 4, rfl, by decide, i_S, tk_at 120 (by decide +kernel) (by decide +kernel), rfl⟩
theorem f_P_50 : tk_F "ChargePlans$Planning" 50 4 0 := ⟨R_S, F_S, 4, rfl, by decide, i_S, Or.inr ⟨"ChargePlans", tk_at 121 (by decide +kernel) (by decide +kernel)⟩⟩
theorem f_C_38 : tk_F "ChargePlans$Clashing" 38 4 0 := ⟨R_S, F_S, 4, rfl, by decide, i_S, Or.inr ⟨"ChargePlans", tk_at 122 (by decide +kernel) (by decide +kernel)⟩⟩
theorem f_S_9 : tk_F "ChargePlans$Sums" 9 4 1 := ⟨R_S, F_S, 4, rfl, by decide, i_S, Or.inl (tk_at 123 (by decide +kernel) (by decide +kernel))⟩
theorem g_S_9 : tk_FF "ChargePlans$Sums" 9 4 1 := ⟨R_S, F_S, 4, rfl, by decide, i_S, tk_at 123 (by decide +kernel) (by decide +kernel), rfl⟩
theorem f_P_59 : tk_F "ChargePlans$Planning" 59 4 1 := ⟨R_S, F_S, 4, rfl, by decide, i_S, Or.inr ⟨"ChargePlans", tk_at 124 (by decide +kernel) (by decide +kernel)⟩⟩
theorem f_C_49 : tk_F "ChargePlans$Clashing" 49 4 1 := ⟨R_S, F_S, 4, rfl, by decide, i_S, Or.inr ⟨"ChargePlans", tk_at 125 (by decide +kernel) (by decide +kernel)⟩⟩
theorem f_S_15 : tk_F "ChargePlans$Sums" 15 4 2 := ⟨R_S, F_S, 4, rfl, by decide, i_S, Or.inl (tk_at 126 (by decide +kernel) (by decide +kernel))⟩
theorem g_S_15 : tk_FF "ChargePlans$Sums" 15 4 2 := ⟨R_S, F_S, 4, rfl, by decide, i_S, tk_at 126 (by decide +kernel) (by decide +kernel), rfl⟩
theorem f_S_18 : tk_F "ChargePlans$Sums" 18 4 3 := ⟨R_S, F_S, 4, rfl, by decide, i_S, Or.inl (tk_at 127 (by decide +kernel) (by decide +kernel))⟩
theorem g_S_18 : tk_FF "ChargePlans$Sums" 18 4 3 := ⟨R_S, F_S, 4, rfl, by decide, i_S, tk_at 127 (by decide +kernel) (by decide +kernel), rfl⟩
theorem f_P_12 : tk_F "ChargePlans$Planning" 12 3 0 := ⟨R_P, F_P, 8, rfl, by decide, i_P, Or.inl (tk_at 137 (by decide +kernel) (by decide +kernel))⟩
theorem g_P_12 : tk_FF "ChargePlans$Planning" 12 3 0 := ⟨R_P, F_P, 8, rfl, by decide, i_P, tk_at 137 (by decide +kernel) (by decide +kernel), rfl⟩
theorem f_P_18 : tk_F "ChargePlans$Planning" 18 3 1 := ⟨R_P, F_P, 8, rfl, by decide, i_P, Or.inl (tk_at 138 (by decide +kernel) (by decide +kernel))⟩
theorem g_P_18 : tk_FF "ChargePlans$Planning" 18 3 1 := ⟨R_P, F_P, 8, rfl, by decide, i_P, tk_at 138 (by decide +kernel) (by decide +kernel), rfl⟩
theorem f_P_22 : tk_F "ChargePlans$Planning" 22 3 2 := ⟨R_P, F_P, 8, rfl, by decide, i_P, Or.inl (tk_at 139 (by decide +kernel) (by decide +kernel))⟩
theorem g_P_22 : tk_FF "ChargePlans$Planning" 22 3 2 := ⟨R_P, F_P, 8, rfl, by decide, i_P, tk_at 139 (by decide +kernel) (by decide +kernel), rfl⟩
theorem f_CP_94 : tk_F "ChargePlans" 94 3 2 := ⟨R_P, F_P, 8, rfl, by decide, i_P, Or.inr ⟨"ChargePlans", tk_at 140 (by decide +kernel) (by decide +kernel)⟩⟩
theorem f_P_29 : tk_F "ChargePlans$Planning" 29 3 3 := ⟨R_P, F_P, 8, rfl, by decide, i_P, Or.inl (tk_at 141 (by decide +kernel) (by decide +kernel))⟩
theorem g_P_29 : tk_FF "ChargePlans$Planning" 29 3 3 := ⟨R_P, F_P, 8, rfl, by decide, i_P, tk_at 141 (by decide +kernel) (by decide +kernel), rfl⟩
theorem f_CP_97 : tk_F "ChargePlans" 97 3 3 := ⟨R_P, F_P, 8, rfl, by decide, i_P, Or.inr ⟨"ChargePlans", tk_at 142 (by decide +kernel) (by decide +kernel)⟩⟩
theorem f_P_33 : tk_F "ChargePlans$Planning" 33 3 4 := ⟨R_P, F_P, 8, rfl, by decide, i_P, Or.inl (tk_at 143 (by decide +kernel) (by decide +kernel))⟩
theorem g_P_33 : tk_FF "ChargePlans$Planning" 33 3 4 := ⟨R_P, F_P, 8, rfl, by decide, i_P, tk_at 143 (by decide +kernel) (by decide +kernel), rfl⟩
theorem f_P_36 : tk_F "ChargePlans$Planning" 36 3 5 := ⟨R_P, F_P, 8, rfl, by decide, i_P, Or.inl (tk_at 144 (by decide +kernel) (by decide +kernel))⟩
theorem g_P_36 : tk_FF "ChargePlans$Planning" 36 3 5 := ⟨R_P, F_P, 8, rfl, by decide, i_P, tk_at 144 (by decide +kernel) (by decide +kernel), rfl⟩
theorem f_CP_108 : tk_F "ChargePlans" 108 3 5 := ⟨R_P, F_P, 8, rfl, by decide, i_P, Or.inr ⟨"ChargePlans", tk_at 145 (by decide +kernel) (by decide +kernel)⟩⟩
theorem f_P_39 : tk_F "ChargePlans$Planning" 39 3 6 := ⟨R_P, F_P, 8, rfl, by decide, i_P, Or.inl (tk_at 146 (by decide +kernel) (by decide +kernel))⟩
theorem g_P_39 : tk_FF "ChargePlans$Planning" 39 3 6 := ⟨R_P, F_P, 8, rfl, by decide, i_P, tk_at 146 (by decide +kernel) (by decide +kernel), rfl⟩
theorem f_CP_111 : tk_F "ChargePlans" 111 3 6 := ⟨R_P, F_P, 8, rfl, by decide, i_P, Or.inr ⟨"ChargePlans", tk_at 147 (by decide +kernel) (by decide +kernel)⟩⟩
theorem f_P_43 : tk_F "ChargePlans$Planning" 43 3 7 := ⟨R_P, F_P, 8, rfl, by decide, i_P, Or.inl (tk_at 148 (by decide +kernel) (by decide +kernel))⟩
theorem g_P_43 : tk_FF "ChargePlans$Planning" 43 3 7 := ⟨R_P, F_P, 8, rfl, by decide, i_P, tk_at 148 (by decide +kernel) (by decide +kernel), rfl⟩
theorem f_CP_104 : tk_F "ChargePlans" 104 3 7 := ⟨R_P, F_P, 8, rfl, by decide, i_P, Or.inr ⟨"ChargePlans", tk_at 149 (by decide +kernel) (by decide +kernel)⟩⟩
theorem f_C_12 : tk_F "ChargePlans$Clashing" 12 5 0 := ⟨R_C, F_C, 3, rfl, by decide, i_C, Or.inl (tk_at 175 (by decide +kernel) (by decide +kernel))⟩
theorem g_C_12 : tk_FF "ChargePlans$Clashing" 12 5 0 := ⟨R_C, F_C, 3, rfl, by decide, i_C, tk_at 175 (by decide +kernel) (by decide +kernel), rfl⟩
theorem f_C_18 : tk_F "ChargePlans$Clashing" 18 5 1 := ⟨R_C, F_C, 3, rfl, by decide, i_C, Or.inl (tk_at 176 (by decide +kernel) (by decide +kernel))⟩
theorem g_C_18 : tk_FF "ChargePlans$Clashing" 18 5 1 := ⟨R_C, F_C, 3, rfl, by decide, i_C, tk_at 176 (by decide +kernel) (by decide +kernel), rfl⟩
theorem f_C_26 : tk_F "ChargePlans$Clashing" 26 5 2 := ⟨R_C, F_C, 3, rfl, by decide, i_C, Or.inl (tk_at 177 (by decide +kernel) (by decide +kernel))⟩
theorem g_C_26 : tk_FF "ChargePlans$Clashing" 26 5 2 := ⟨R_C, F_C, 3, rfl, by decide, i_C, tk_at 177 (by decide +kernel) (by decide +kernel), rfl⟩
theorem f_CP_10 : tk_F "ChargePlans" 10 0 0 := ⟨R_CP, F_CP, 4, rfl, by decide, i_CP, Or.inl (tk_at 186 (by decide +kernel) (by decide +kernel))⟩
theorem g_CP_10 : tk_FF "ChargePlans" 10 0 0 := ⟨R_CP, F_CP, 4, rfl, by decide, i_CP, tk_at 186 (by decide +kernel) (by decide +kernel), rfl⟩
theorem f_CP_19 : tk_F "ChargePlans" 19 0 1 := ⟨R_CP, F_CP, 4, rfl, by decide, i_CP, Or.inl (tk_at 187 (by decide +kernel) (by decide +kernel))⟩
theorem g_CP_19 : tk_FF "ChargePlans" 19 0 1 := ⟨R_CP, F_CP, 4, rfl, by decide, i_CP, tk_at 187 (by decide +kernel) (by decide +kernel), rfl⟩
theorem f_CP_26 : tk_F "ChargePlans" 26 0 2 := ⟨R_CP, F_CP, 4, rfl, by decide, i_CP, Or.inl (tk_at 188 (by decide +kernel) (by decide +kernel))⟩
theorem g_CP_26 : tk_FF "ChargePlans" 26 0 2 := ⟨R_CP, F_CP, 4, rfl, by decide, i_CP, tk_at 188 (by decide +kernel) (by decide +kernel), rfl⟩
theorem f_CP_33 : tk_F "ChargePlans" 33 0 3 := ⟨R_CP, F_CP, 4, rfl, by decide, i_CP, Or.inl (tk_at 189 (by decide +kernel) (by decide +kernel))⟩
theorem g_CP_33 : tk_FF "ChargePlans" 33 0 3 := ⟨R_CP, F_CP, 4, rfl, by decide, i_CP, tk_at 189 (by decide +kernel) (by decide +kernel), rfl⟩
theorem f_M_56 : tk_F "ChargePlansModel" 56 6 0 := ⟨R_M, F_M, 21, rfl, by decide, i_M, Or.inl (tk_at 556 (by decide +kernel) (by decide +kernel))⟩
theorem g_M_56 : tk_FF "ChargePlansModel" 56 6 0 := ⟨R_M, F_M, 21, rfl, by decide, i_M, tk_at 556 (by decide +kernel) (by decide +kernel), rfl⟩
theorem f_M_60 : tk_F "ChargePlansModel" 60 6 1 := ⟨R_M, F_M, 21, rfl, by decide, i_M, Or.inl (tk_at 557 (by decide +kernel) (by decide +kernel))⟩
theorem g_M_60 : tk_FF "ChargePlansModel" 60 6 1 := ⟨R_M, F_M, 21, rfl, by decide, i_M, tk_at 557 (by decide +kernel) (by decide +kernel), rfl⟩
theorem f_M_7 : tk_F "ChargePlansModel" 7 6 2 := ⟨R_M, F_M, 21, rfl, by decide, i_M, Or.inl (tk_at 558 (by decide +kernel) (by decide +kernel))⟩
theorem g_M_7 : tk_FF "ChargePlansModel" 7 6 2 := ⟨R_M, F_M, 21, rfl, by decide, i_M, tk_at 558 (by decide +kernel) (by decide +kernel), rfl⟩
theorem f_M_13 : tk_F "ChargePlansModel" 13 6 3 := ⟨R_M, F_M, 21, rfl, by decide, i_M, Or.inl (tk_at 559 (by decide +kernel) (by decide +kernel))⟩
theorem g_M_13 : tk_FF "ChargePlansModel" 13 6 3 := ⟨R_M, F_M, 21, rfl, by decide, i_M, tk_at 559 (by decide +kernel) (by decide +kernel), rfl⟩
theorem f_M_16 : tk_F "ChargePlansModel" 16 6 4 := ⟨R_M, F_M, 21, rfl, by decide, i_M, Or.inl (tk_at 560 (by decide +kernel) (by decide +kernel))⟩
theorem g_M_16 : tk_FF "ChargePlansModel" 16 6 4 := ⟨R_M, F_M, 21, rfl, by decide, i_M, tk_at 560 (by decide +kernel) (by decide +kernel), rfl⟩
theorem f_M_19 : tk_F "ChargePlansModel" 19 6 5 := ⟨R_M, F_M, 21, rfl, by decide, i_M, Or.inl (tk_at 561 (by decide +kernel) (by decide +kernel))⟩
theorem g_M_19 : tk_FF "ChargePlansModel" 19 6 5 := ⟨R_M, F_M, 21, rfl, by decide, i_M, tk_at 561 (by decide +kernel) (by decide +kernel), rfl⟩
theorem f_M_22 : tk_F "ChargePlansModel" 22 6 6 := ⟨R_M, F_M, 21, rfl, by decide, i_M, Or.inl (tk_at 562 (by decide +kernel) (by decide +kernel))⟩
theorem g_M_22 : tk_FF "ChargePlansModel" 22 6 6 := ⟨R_M, F_M, 21, rfl, by decide, i_M, tk_at 562 (by decide +kernel) (by decide +kernel), rfl⟩
theorem f_M_25 : tk_F "ChargePlansModel" 25 6 7 := ⟨R_M, F_M, 21, rfl, by decide, i_M, Or.inl (tk_at 563 (by decide +kernel) (by decide +kernel))⟩
theorem g_M_25 : tk_FF "ChargePlansModel" 25 6 7 := ⟨R_M, F_M, 21, rfl, by decide, i_M, tk_at 563 (by decide +kernel) (by decide +kernel), rfl⟩
theorem f_M_67 : tk_F "ChargePlansModel" 67 6 8 := ⟨R_M, F_M, 21, rfl, by decide, i_M, Or.inl (tk_at 564 (by decide +kernel) (by decide +kernel))⟩
theorem g_M_67 : tk_FF "ChargePlansModel" 67 6 8 := ⟨R_M, F_M, 21, rfl, by decide, i_M, tk_at 564 (by decide +kernel) (by decide +kernel), rfl⟩
theorem f_M_28 : tk_F "ChargePlansModel" 28 6 9 := ⟨R_M, F_M, 21, rfl, by decide, i_M, Or.inl (tk_at 565 (by decide +kernel) (by decide +kernel))⟩
theorem g_M_28 : tk_FF "ChargePlansModel" 28 6 9 := ⟨R_M, F_M, 21, rfl, by decide, i_M, tk_at 565 (by decide +kernel) (by decide +kernel), rfl⟩
theorem f_M_31 : tk_F "ChargePlansModel" 31 6 10 := ⟨R_M, F_M, 21, rfl, by decide, i_M, Or.inl (tk_at 566 (by decide +kernel) (by decide +kernel))⟩
theorem g_M_31 : tk_FF "ChargePlansModel" 31 6 10 := ⟨R_M, F_M, 21, rfl, by decide, i_M, tk_at 566 (by decide +kernel) (by decide +kernel), rfl⟩
theorem f_M_34 : tk_F "ChargePlansModel" 34 6 11 := ⟨R_M, F_M, 21, rfl, by decide, i_M, Or.inl (tk_at 567 (by decide +kernel) (by decide +kernel))⟩
theorem g_M_34 : tk_FF "ChargePlansModel" 34 6 11 := ⟨R_M, F_M, 21, rfl, by decide, i_M, tk_at 567 (by decide +kernel) (by decide +kernel), rfl⟩
theorem f_M_37 : tk_F "ChargePlansModel" 37 6 12 := ⟨R_M, F_M, 21, rfl, by decide, i_M, Or.inl (tk_at 568 (by decide +kernel) (by decide +kernel))⟩
theorem g_M_37 : tk_FF "ChargePlansModel" 37 6 12 := ⟨R_M, F_M, 21, rfl, by decide, i_M, tk_at 568 (by decide +kernel) (by decide +kernel), rfl⟩
theorem f_M_40 : tk_F "ChargePlansModel" 40 6 13 := ⟨R_M, F_M, 21, rfl, by decide, i_M, Or.inl (tk_at 569 (by decide +kernel) (by decide +kernel))⟩
theorem g_M_40 : tk_FF "ChargePlansModel" 40 6 13 := ⟨R_M, F_M, 21, rfl, by decide, i_M, tk_at 569 (by decide +kernel) (by decide +kernel), rfl⟩
theorem f_M_43 : tk_F "ChargePlansModel" 43 6 14 := ⟨R_M, F_M, 21, rfl, by decide, i_M, Or.inl (tk_at 570 (by decide +kernel) (by decide +kernel))⟩
theorem g_M_43 : tk_FF "ChargePlansModel" 43 6 14 := ⟨R_M, F_M, 21, rfl, by decide, i_M, tk_at 570 (by decide +kernel) (by decide +kernel), rfl⟩
theorem f_M_46 : tk_F "ChargePlansModel" 46 6 15 := ⟨R_M, F_M, 21, rfl, by decide, i_M, Or.inl (tk_at 571 (by decide +kernel) (by decide +kernel))⟩
theorem g_M_46 : tk_FF "ChargePlansModel" 46 6 15 := ⟨R_M, F_M, 21, rfl, by decide, i_M, tk_at 571 (by decide +kernel) (by decide +kernel), rfl⟩
theorem f_M_101 : tk_F "ChargePlansModel" 101 6 16 := ⟨R_M, F_M, 21, rfl, by decide, i_M, Or.inl (tk_at 572 (by decide +kernel) (by decide +kernel))⟩
theorem g_M_101 : tk_FF "ChargePlansModel" 101 6 16 := ⟨R_M, F_M, 21, rfl, by decide, i_M, tk_at 572 (by decide +kernel) (by decide +kernel), rfl⟩
theorem f_M_105 : tk_F "ChargePlansModel" 105 6 17 := ⟨R_M, F_M, 21, rfl, by decide, i_M, Or.inl (tk_at 573 (by decide +kernel) (by decide +kernel))⟩
theorem g_M_105 : tk_FF "ChargePlansModel" 105 6 17 := ⟨R_M, F_M, 21, rfl, by decide, i_M, tk_at 573 (by decide +kernel) (by decide +kernel), rfl⟩
theorem f_M_108 : tk_F "ChargePlansModel" 108 6 18 := ⟨R_M, F_M, 21, rfl, by decide, i_M, Or.inl (tk_at 574 (by decide +kernel) (by decide +kernel))⟩
theorem g_M_108 : tk_FF "ChargePlansModel" 108 6 18 := ⟨R_M, F_M, 21, rfl, by decide, i_M, tk_at 574 (by decide +kernel) (by decide +kernel), rfl⟩
theorem f_M_49 : tk_F "ChargePlansModel" 49 6 19 := ⟨R_M, F_M, 21, rfl, by decide, i_M, Or.inl (tk_at 575 (by decide +kernel) (by decide +kernel))⟩
theorem g_M_49 : tk_FF "ChargePlansModel" 49 6 19 := ⟨R_M, F_M, 21, rfl, by decide, i_M, tk_at 575 (by decide +kernel) (by decide +kernel), rfl⟩
theorem f_M_52 : tk_F "ChargePlansModel" 52 6 20 := ⟨R_M, F_M, 21, rfl, by decide, i_M, Or.inl (tk_at 576 (by decide +kernel) (by decide +kernel))⟩
theorem g_M_52 : tk_FF "ChargePlansModel" 52 6 20 := ⟨R_M, F_M, 21, rfl, by decide, i_M, tk_at 576 (by decide +kernel) (by decide +kernel), rfl⟩
abbrev c_CP_init : ByteArray := prog_1_method_1_code
def y_CP_init : MethodName := ⟨"ChargePlans", "<init>", "()V"⟩
abbrev w_CP_init : Cond := .code y_CP_init c_CP_init 1 none
set_option maxRecDepth 20000 in
theorem k_CP_init : tk_CI y_CP_init w_CP_init 1 0 := ⟨⟨tk_isC_code, tk_ac 20 rfl (by decide +kernel), tk_at 1 (by decide +kernel) (by decide +kernel), by decide, by decide +kernel, by decide +kernel⟩, tk_at 19 (by decide +kernel) (by decide +kernel), rfl, _, rfl⟩
abbrev c_G_init : ByteArray := prog_3_method_1_code
def y_G_init : MethodName := ⟨"ChargePlans$Goods", "<init>", "()V"⟩
abbrev w_G_init : Cond := .code y_G_init c_G_init 1 none
set_option maxRecDepth 20000 in
theorem k_G_init : tk_CI y_G_init w_G_init 1 0 := ⟨⟨tk_isC_code, tk_ac 28 rfl (by decide +kernel), tk_at 2 (by decide +kernel) (by decide +kernel), by decide, by decide +kernel, by decide +kernel⟩, tk_at 27 (by decide +kernel) (by decide +kernel), rfl, _, rfl⟩
abbrev c_H_init : ByteArray := prog_4_method_1_code
def y_H_init : MethodName := ⟨"ChargePlans$Heats", "<init>", "()V"⟩
abbrev w_H_init : Cond := .code y_H_init c_H_init 1 none
set_option maxRecDepth 20000 in
theorem k_H_init : tk_CI y_H_init w_H_init 1 0 := ⟨⟨tk_isC_code, tk_ac 69 rfl (by decide +kernel), tk_at 3 (by decide +kernel) (by decide +kernel), by decide, by decide +kernel, by decide +kernel⟩, tk_at 68 (by decide +kernel) (by decide +kernel), rfl, _, rfl⟩
abbrev c_P_init : ByteArray := prog_5_method_1_code
def y_P_init : MethodName := ⟨"ChargePlans$Planning", "<init>", "()V"⟩
abbrev w_P_init : Cond := .code y_P_init c_P_init 1 none
set_option maxRecDepth 20000 in
theorem k_P_init : tk_CI y_P_init w_P_init 1 0 := ⟨⟨tk_isC_code, tk_ac 112 rfl (by decide +kernel), tk_at 4 (by decide +kernel) (by decide +kernel), by decide, by decide +kernel, by decide +kernel⟩, tk_at 111 (by decide +kernel) (by decide +kernel), rfl, _, rfl⟩
abbrev c_S_init : ByteArray := prog_6_method_1_code
def y_S_init : MethodName := ⟨"ChargePlans$Sums", "<init>", "()V"⟩
abbrev w_S_init : Cond := .code y_S_init c_S_init 1 none
set_option maxRecDepth 20000 in
theorem k_S_init : tk_CI y_S_init w_S_init 1 0 := ⟨⟨tk_isC_code, tk_ac 118 rfl (by decide +kernel), tk_at 5 (by decide +kernel) (by decide +kernel), by decide, by decide +kernel, by decide +kernel⟩, tk_at 117 (by decide +kernel) (by decide +kernel), rfl, _, rfl⟩
abbrev c_C_init : ByteArray := prog_2_method_1_code
def y_C_init : MethodName := ⟨"ChargePlans$Clashing", "<init>", "()V"⟩
abbrev w_C_init : Cond := .code y_C_init c_C_init 1 none
set_option maxRecDepth 20000 in
theorem k_C_init : tk_CI y_C_init w_C_init 1 0 := ⟨⟨tk_isC_code, tk_ac 171 rfl (by decide +kernel), tk_at 6 (by decide +kernel) (by decide +kernel), by decide, by decide +kernel, by decide +kernel⟩, tk_at 170 (by decide +kernel) (by decide +kernel), rfl, _, rfl⟩
abbrev c_L_good : ByteArray := method_3_code
def y_L_good : MethodName := ⟨"ChargePlansLaw", "good", "(LChargePlans;III[J)I"⟩
abbrev h_L_good : List (Nat × Nat × Nat × Nat) := [(0, 12, 15, 13), (0, 12, 19, 15)]
abbrev w_L_good : Cond := .codeWith y_L_good c_L_good 6 (some .int) h_L_good
set_option maxRecDepth 20000 in
theorem k_L_good : tk_CS y_L_good w_L_good 6 5 := ⟨⟨tk_isC_with, tk_ac 201 rfl (by decide +kernel), tk_at 0 (by decide +kernel) (by decide +kernel), by decide, by decide +kernel, by decide +kernel⟩, tk_at 200 (by decide +kernel) (by decide +kernel)⟩
abbrev c_CP_good : ByteArray := prog_1_method_2_code
def y_CP_good : MethodName := ⟨"ChargePlans", "good", "(III)I"⟩
abbrev w_CP_good : Cond := .code y_CP_good c_CP_good 4 (some .int)
set_option maxRecDepth 20000 in
theorem k_CP_good : tk_CV y_CP_good w_CP_good 4 3 := ⟨⟨tk_isC_code, tk_ac 207 rfl (by decide +kernel), tk_at 1 (by decide +kernel) (by decide +kernel), by decide, by decide +kernel, by decide +kernel⟩, tk_at 205 (by decide +kernel) (by decide +kernel), tk_at 206 (by decide +kernel) (by decide +kernel)⟩
abbrev c_CP_requireTurn : ByteArray := prog_1_method_22_code
def y_CP_requireTurn : MethodName := ⟨"ChargePlans", "requireTurn", "(Z)V"⟩
abbrev w_CP_requireTurn : Cond := .code y_CP_requireTurn c_CP_requireTurn 1 none
set_option maxRecDepth 20000 in
theorem k_CP_requireTurn : tk_CS y_CP_requireTurn w_CP_requireTurn 1 1 := ⟨⟨tk_isC_code, tk_ac 210 rfl (by decide +kernel), tk_at 1 (by decide +kernel) (by decide +kernel), by decide, by decide +kernel, by decide +kernel⟩, tk_at 209 (by decide +kernel) (by decide +kernel)⟩
abbrev c_CP_requireRange : ByteArray := prog_1_method_24_code
def y_CP_requireRange : MethodName := ⟨"ChargePlans", "requireRange", "(III)V"⟩
abbrev w_CP_requireRange : Cond := .code y_CP_requireRange c_CP_requireRange 3 none
set_option maxRecDepth 20000 in
theorem k_CP_requireRange : tk_CS y_CP_requireRange w_CP_requireRange 3 3 := ⟨⟨tk_isC_code, tk_ac 282 rfl (by decide +kernel), tk_at 1 (by decide +kernel) (by decide +kernel), by decide, by decide +kernel, by decide +kernel⟩, tk_at 281 (by decide +kernel) (by decide +kernel)⟩
abbrev c_CP_requireArgument : ByteArray := prog_1_method_23_code
def y_CP_requireArgument : MethodName := ⟨"ChargePlans", "requireArgument", "(Z)V"⟩
abbrev w_CP_requireArgument : Cond := .code y_CP_requireArgument c_CP_requireArgument 1 none
set_option maxRecDepth 20000 in
theorem k_CP_requireArgument : tk_CS y_CP_requireArgument w_CP_requireArgument 1 1 := ⟨⟨tk_isC_code, tk_ac 285 rfl (by decide +kernel), tk_at 1 (by decide +kernel) (by decide +kernel), by decide, by decide +kernel, by decide +kernel⟩, tk_at 284 (by decide +kernel) (by decide +kernel)⟩
abbrev c_G_append : ByteArray := prog_3_method_2_code
def y_G_append : MethodName := ⟨"ChargePlans$Goods", "append", "(III)I"⟩
abbrev w_G_append : Cond := .code y_G_append c_G_append 5 (some .int)
set_option maxRecDepth 20000 in
theorem k_G_append : tk_CV y_G_append w_G_append 5 3 := ⟨⟨tk_isC_code, tk_ac 306 rfl (by decide +kernel), tk_at 2 (by decide +kernel) (by decide +kernel), by decide, by decide +kernel, by decide +kernel⟩, tk_at 305 (by decide +kernel) (by decide +kernel), tk_sl (by decide +kernel) (by decide +kernel)⟩
abbrev c_L_element : ByteArray := method_4_code
def y_L_element : MethodName := ⟨"ChargePlansLaw", "element", "(LChargePlans;IIII)I"⟩
abbrev h_L_element : List (Nat × Nat × Nat × Nat) := [(0, 9, 12, 21), (0, 9, 16, 15)]
abbrev w_L_element : Cond := .codeWith y_L_element c_L_element 6 (some .int) h_L_element
set_option maxRecDepth 20000 in
theorem k_L_element : tk_CS y_L_element w_L_element 6 5 := ⟨⟨tk_isC_with, tk_ac 309 rfl (by decide +kernel), tk_at 0 (by decide +kernel) (by decide +kernel), by decide, by decide +kernel, by decide +kernel⟩, tk_at 308 (by decide +kernel) (by decide +kernel)⟩
abbrev c_CP_element : ByteArray := prog_1_method_3_code
def y_CP_element : MethodName := ⟨"ChargePlans", "element", "(IIII)V"⟩
abbrev w_CP_element : Cond := .code y_CP_element c_CP_element 5 none
set_option maxRecDepth 20000 in
theorem k_CP_element : tk_CV y_CP_element w_CP_element 5 4 := ⟨⟨tk_isC_code, tk_ac 314 rfl (by decide +kernel), tk_at 1 (by decide +kernel) (by decide +kernel), by decide, by decide +kernel, by decide +kernel⟩, tk_at 312 (by decide +kernel) (by decide +kernel), tk_at 313 (by decide +kernel) (by decide +kernel)⟩
abbrev c_CP_requireIndex : ByteArray := prog_1_method_21_code
def y_CP_requireIndex : MethodName := ⟨"ChargePlans", "requireIndex", "(II)V"⟩
abbrev w_CP_requireIndex : Cond := .code y_CP_requireIndex c_CP_requireIndex 2 none
set_option maxRecDepth 20000 in
theorem k_CP_requireIndex : tk_CS y_CP_requireIndex w_CP_requireIndex 2 2 := ⟨⟨tk_isC_code, tk_ac 317 rfl (by decide +kernel), tk_at 1 (by decide +kernel) (by decide +kernel), by decide, by decide +kernel, by decide +kernel⟩, tk_at 316 (by decide +kernel) (by decide +kernel)⟩
abbrev c_CP_requireSpan : ByteArray := prog_1_method_25_code
def y_CP_requireSpan : MethodName := ⟨"ChargePlans", "requireSpan", "(IIII)V"⟩
abbrev w_CP_requireSpan : Cond := .code y_CP_requireSpan c_CP_requireSpan 4 none
set_option maxRecDepth 20000 in
theorem k_CP_requireSpan : tk_CS y_CP_requireSpan w_CP_requireSpan 4 4 := ⟨⟨tk_isC_code, tk_ac 336 rfl (by decide +kernel), tk_at 1 (by decide +kernel) (by decide +kernel), by decide, by decide +kernel, by decide +kernel⟩, tk_at 335 (by decide +kernel) (by decide +kernel)⟩
abbrev c_L_limit : ByteArray := method_5_code
def y_L_limit : MethodName := ⟨"ChargePlansLaw", "limit", "(LChargePlans;II)I"⟩
abbrev h_L_limit : List (Nat × Nat × Nat × Nat) := [(0, 6, 9, 21), (0, 6, 12, 15)]
abbrev w_L_limit : Cond := .codeWith y_L_limit c_L_limit 4 (some .int) h_L_limit
set_option maxRecDepth 20000 in
theorem k_L_limit : tk_CS y_L_limit w_L_limit 4 3 := ⟨⟨tk_isC_with, tk_ac 339 rfl (by decide +kernel), tk_at 0 (by decide +kernel) (by decide +kernel), by decide, by decide +kernel, by decide +kernel⟩, tk_at 338 (by decide +kernel) (by decide +kernel)⟩
abbrev c_CP_limit : ByteArray := prog_1_method_4_code
def y_CP_limit : MethodName := ⟨"ChargePlans", "limit", "(II)V"⟩
abbrev w_CP_limit : Cond := .code y_CP_limit c_CP_limit 3 none
set_option maxRecDepth 20000 in
theorem k_CP_limit : tk_CV y_CP_limit w_CP_limit 3 2 := ⟨⟨tk_isC_code, tk_ac 343 rfl (by decide +kernel), tk_at 1 (by decide +kernel) (by decide +kernel), by decide, by decide +kernel, by decide +kernel⟩, tk_at 341 (by decide +kernel) (by decide +kernel), tk_at 342 (by decide +kernel) (by decide +kernel)⟩
abbrev c_L_arrive : ByteArray := method_6_code
def y_L_arrive : MethodName := ⟨"ChargePlansLaw", "arrive", "(LChargePlans;II[J)I"⟩
abbrev h_L_arrive : List (Nat × Nat × Nat × Nat) := [(0, 10, 13, 21), (0, 10, 17, 15), (0, 10, 21, 31)]
abbrev w_L_arrive : Cond := .codeWith y_L_arrive c_L_arrive 5 (some .int) h_L_arrive
set_option maxRecDepth 20000 in
theorem k_L_arrive : tk_CS y_L_arrive w_L_arrive 5 4 := ⟨⟨tk_isC_with, tk_ac 346 rfl (by decide +kernel), tk_at 0 (by decide +kernel) (by decide +kernel), by decide, by decide +kernel, by decide +kernel⟩, tk_at 345 (by decide +kernel) (by decide +kernel)⟩
abbrev c_CP_arrive : ByteArray := prog_1_method_5_code
def y_CP_arrive : MethodName := ⟨"ChargePlans", "arrive", "(II)I"⟩
abbrev w_CP_arrive : Cond := .code y_CP_arrive c_CP_arrive 3 (some .int)
set_option maxRecDepth 20000 in
theorem k_CP_arrive : tk_CV y_CP_arrive w_CP_arrive 3 2 := ⟨⟨tk_isC_code, tk_ac 351 rfl (by decide +kernel), tk_at 1 (by decide +kernel) (by decide +kernel), by decide, by decide +kernel, by decide +kernel⟩, tk_at 349 (by decide +kernel) (by decide +kernel), tk_at 350 (by decide +kernel) (by decide +kernel)⟩
abbrev c_CP_requireMeaning : ByteArray := prog_1_method_26_code
def y_CP_requireMeaning : MethodName := ⟨"ChargePlans", "requireMeaning", "(Z)V"⟩
abbrev w_CP_requireMeaning : Cond := .code y_CP_requireMeaning c_CP_requireMeaning 1 none
set_option maxRecDepth 20000 in
theorem k_CP_requireMeaning : tk_CS y_CP_requireMeaning w_CP_requireMeaning 1 1 := ⟨⟨tk_isC_code, tk_ac 354 rfl (by decide +kernel), tk_at 1 (by decide +kernel) (by decide +kernel), by decide, by decide +kernel, by decide +kernel⟩, tk_at 353 (by decide +kernel) (by decide +kernel)⟩
abbrev c_L_heat : ByteArray := method_7_code
def y_L_heat : MethodName := ⟨"ChargePlansLaw", "heat", "(LChargePlans;II[J)I"⟩
abbrev h_L_heat : List (Nat × Nat × Nat × Nat) := [(0, 10, 13, 13), (0, 10, 17, 15)]
abbrev w_L_heat : Cond := .codeWith y_L_heat c_L_heat 5 (some .int) h_L_heat
set_option maxRecDepth 20000 in
theorem k_L_heat : tk_CS y_L_heat w_L_heat 5 4 := ⟨⟨tk_isC_with, tk_ac 373 rfl (by decide +kernel), tk_at 0 (by decide +kernel) (by decide +kernel), by decide, by decide +kernel, by decide +kernel⟩, tk_at 372 (by decide +kernel) (by decide +kernel)⟩
abbrev c_CP_heat : ByteArray := prog_1_method_6_code
def y_CP_heat : MethodName := ⟨"ChargePlans", "heat", "(II)I"⟩
abbrev w_CP_heat : Cond := .code y_CP_heat c_CP_heat 3 (some .int)
set_option maxRecDepth 20000 in
theorem k_CP_heat : tk_CV y_CP_heat w_CP_heat 3 2 := ⟨⟨tk_isC_code, tk_ac 377 rfl (by decide +kernel), tk_at 1 (by decide +kernel) (by decide +kernel), by decide, by decide +kernel, by decide +kernel⟩, tk_at 375 (by decide +kernel) (by decide +kernel), tk_at 376 (by decide +kernel) (by decide +kernel)⟩
abbrev c_H_append : ByteArray := prog_4_method_2_code
def y_H_append : MethodName := ⟨"ChargePlans$Heats", "append", "(II)I"⟩
abbrev w_H_append : Cond := .code y_H_append c_H_append 5 (some .int)
set_option maxRecDepth 20000 in
theorem k_H_append : tk_CV y_H_append w_H_append 5 2 := ⟨⟨tk_isC_code, tk_ac 381 rfl (by decide +kernel), tk_at 3 (by decide +kernel) (by decide +kernel), by decide, by decide +kernel, by decide +kernel⟩, tk_at 380 (by decide +kernel) (by decide +kernel), tk_sl (by decide +kernel) (by decide +kernel)⟩
abbrev c_L_span : ByteArray := method_8_code
def y_L_span : MethodName := ⟨"ChargePlansLaw", "span", "(LChargePlans;IIII)I"⟩
abbrev h_L_span : List (Nat × Nat × Nat × Nat) := [(0, 9, 12, 21), (0, 9, 16, 15)]
abbrev w_L_span : Cond := .codeWith y_L_span c_L_span 6 (some .int) h_L_span
set_option maxRecDepth 20000 in
theorem k_L_span : tk_CS y_L_span w_L_span 6 5 := ⟨⟨tk_isC_with, tk_ac 384 rfl (by decide +kernel), tk_at 0 (by decide +kernel) (by decide +kernel), by decide, by decide +kernel, by decide +kernel⟩, tk_at 383 (by decide +kernel) (by decide +kernel)⟩
abbrev c_CP_span : ByteArray := prog_1_method_7_code
def y_CP_span : MethodName := ⟨"ChargePlans", "span", "(IIII)V"⟩
abbrev w_CP_span : Cond := .code y_CP_span c_CP_span 5 none
set_option maxRecDepth 20000 in
theorem k_CP_span : tk_CV y_CP_span w_CP_span 5 4 := ⟨⟨tk_isC_code, tk_ac 388 rfl (by decide +kernel), tk_at 1 (by decide +kernel) (by decide +kernel), by decide, by decide +kernel, by decide +kernel⟩, tk_at 386 (by decide +kernel) (by decide +kernel), tk_at 387 (by decide +kernel) (by decide +kernel)⟩
abbrev c_L_most : ByteArray := method_9_code
def y_L_most : MethodName := ⟨"ChargePlansLaw", "most", "(LChargePlans;II)I"⟩
abbrev h_L_most : List (Nat × Nat × Nat × Nat) := [(0, 6, 9, 21), (0, 6, 12, 15)]
abbrev w_L_most : Cond := .codeWith y_L_most c_L_most 4 (some .int) h_L_most
set_option maxRecDepth 20000 in
theorem k_L_most : tk_CS y_L_most w_L_most 4 3 := ⟨⟨tk_isC_with, tk_ac 391 rfl (by decide +kernel), tk_at 0 (by decide +kernel) (by decide +kernel), by decide, by decide +kernel, by decide +kernel⟩, tk_at 390 (by decide +kernel) (by decide +kernel)⟩
abbrev c_CP_most : ByteArray := prog_1_method_8_code
def y_CP_most : MethodName := ⟨"ChargePlans", "most", "(II)V"⟩
abbrev w_CP_most : Cond := .code y_CP_most c_CP_most 3 none
set_option maxRecDepth 20000 in
theorem k_CP_most : tk_CV y_CP_most w_CP_most 3 2 := ⟨⟨tk_isC_code, tk_ac 395 rfl (by decide +kernel), tk_at 1 (by decide +kernel) (by decide +kernel), by decide, by decide +kernel, by decide +kernel⟩, tk_at 393 (by decide +kernel) (by decide +kernel), tk_at 394 (by decide +kernel) (by decide +kernel)⟩
abbrev c_L_plan : ByteArray := method_10_code
def y_L_plan : MethodName := ⟨"ChargePlansLaw", "plan", "(LChargePlans;II[J)I"⟩
abbrev h_L_plan : List (Nat × Nat × Nat × Nat) := [(0, 10, 13, 21), (0, 10, 17, 15)]
abbrev w_L_plan : Cond := .codeWith y_L_plan c_L_plan 5 (some .int) h_L_plan
set_option maxRecDepth 20000 in
theorem k_L_plan : tk_CS y_L_plan w_L_plan 5 4 := ⟨⟨tk_isC_with, tk_ac 398 rfl (by decide +kernel), tk_at 0 (by decide +kernel) (by decide +kernel), by decide, by decide +kernel, by decide +kernel⟩, tk_at 397 (by decide +kernel) (by decide +kernel)⟩
abbrev c_CP_plan : ByteArray := prog_1_method_9_code
def y_CP_plan : MethodName := ⟨"ChargePlans", "plan", "(II)I"⟩
abbrev w_CP_plan : Cond := .code y_CP_plan c_CP_plan 3 (some .int)
set_option maxRecDepth 20000 in
theorem k_CP_plan : tk_CV y_CP_plan w_CP_plan 3 2 := ⟨⟨tk_isC_code, tk_ac 402 rfl (by decide +kernel), tk_at 1 (by decide +kernel) (by decide +kernel), by decide, by decide +kernel, by decide +kernel⟩, tk_at 400 (by decide +kernel) (by decide +kernel), tk_at 401 (by decide +kernel) (by decide +kernel)⟩
abbrev c_P_search : ByteArray := prog_5_method_2_code
def y_P_search : MethodName := ⟨"ChargePlans$Planning", "search", "(LChargePlans$Goods;LChargePlans$Heats;II)V"⟩
abbrev w_P_search : Cond := .code y_P_search c_P_search 5 none
set_option maxRecDepth 20000 in
theorem k_P_search : tk_CV y_P_search w_P_search 5 4 := ⟨⟨tk_isC_code, tk_ac 406 rfl (by decide +kernel), tk_at 4 (by decide +kernel) (by decide +kernel), by decide, by decide +kernel, by decide +kernel⟩, tk_at 405 (by decide +kernel) (by decide +kernel), tk_sl (by decide +kernel) (by decide +kernel)⟩
abbrev c_S_load : ByteArray := prog_6_method_2_code
def y_S_load : MethodName := ⟨"ChargePlans$Sums", "load", "(LChargePlans$Goods;LChargePlans$Heats;I)V"⟩
abbrev w_S_load : Cond := .code y_S_load c_S_load 5 none
set_option maxRecDepth 20000 in
theorem k_S_load : tk_CV y_S_load w_S_load 5 3 := ⟨⟨tk_isC_code, tk_ac 410 rfl (by decide +kernel), tk_at 5 (by decide +kernel) (by decide +kernel), by decide, by decide +kernel, by decide +kernel⟩, tk_at 409 (by decide +kernel) (by decide +kernel), tk_sl (by decide +kernel) (by decide +kernel)⟩
abbrev c_G_room : ByteArray := prog_3_method_3_code
def y_G_room : MethodName := ⟨"ChargePlans$Goods", "room", "(I)I"⟩
abbrev w_G_room : Cond := .code y_G_room c_G_room 2 (some .int)
set_option maxRecDepth 20000 in
theorem k_G_room : tk_CV y_G_room w_G_room 2 1 := ⟨⟨tk_isC_code, tk_ac 414 rfl (by decide +kernel), tk_at 2 (by decide +kernel) (by decide +kernel), by decide, by decide +kernel, by decide +kernel⟩, tk_at 413 (by decide +kernel) (by decide +kernel), tk_sl (by decide +kernel) (by decide +kernel)⟩
abbrev c_S_loadElements : ByteArray := prog_6_method_3_code
def y_S_loadElements : MethodName := ⟨"ChargePlans$Sums", "loadElements", "(LChargePlans$Goods;LChargePlans$Heats;II)V"⟩
abbrev w_S_loadElements : Cond := .code y_S_loadElements c_S_loadElements 9 none
set_option maxRecDepth 20000 in
theorem k_S_loadElements : tk_CV y_S_loadElements w_S_loadElements 9 4 := ⟨⟨tk_isC_code, tk_ac 421 rfl (by decide +kernel), tk_at 5 (by decide +kernel) (by decide +kernel), by decide, by decide +kernel, by decide +kernel⟩, tk_at 420 (by decide +kernel) (by decide +kernel), tk_sl (by decide +kernel) (by decide +kernel)⟩
abbrev c_P_tryNumbers : ByteArray := prog_5_method_3_code
def y_P_tryNumbers : MethodName := ⟨"ChargePlans$Planning", "tryNumbers", "(I)V"⟩
abbrev w_P_tryNumbers : Cond := .code y_P_tryNumbers c_P_tryNumbers 3 none
set_option maxRecDepth 20000 in
theorem k_P_tryNumbers : tk_CV y_P_tryNumbers w_P_tryNumbers 3 1 := ⟨⟨tk_isC_code, tk_ac 425 rfl (by decide +kernel), tk_at 4 (by decide +kernel) (by decide +kernel), by decide, by decide +kernel, by decide +kernel⟩, tk_at 424 (by decide +kernel) (by decide +kernel), tk_sl (by decide +kernel) (by decide +kernel)⟩
abbrev c_P_keepIfAllHold : ByteArray := prog_5_method_5_code
def y_P_keepIfAllHold : MethodName := ⟨"ChargePlans$Planning", "keepIfAllHold", "()V"⟩
abbrev w_P_keepIfAllHold : Cond := .code y_P_keepIfAllHold c_P_keepIfAllHold 2 none
set_option maxRecDepth 20000 in
theorem k_P_keepIfAllHold : tk_CV y_P_keepIfAllHold w_P_keepIfAllHold 2 0 := ⟨⟨tk_isC_code, tk_ac 429 rfl (by decide +kernel), tk_at 4 (by decide +kernel) (by decide +kernel), by decide, by decide +kernel, by decide +kernel⟩, tk_at 428 (by decide +kernel) (by decide +kernel), tk_sl (by decide +kernel) (by decide +kernel)⟩
abbrev c_S_broken : ByteArray := prog_6_method_8_code
def y_S_broken : MethodName := ⟨"ChargePlans$Sums", "broken", "()I"⟩
abbrev w_S_broken : Cond := .code y_S_broken c_S_broken 3 (some .int)
set_option maxRecDepth 20000 in
theorem k_S_broken : tk_CV y_S_broken w_S_broken 3 0 := ⟨⟨tk_isC_code, tk_ac 433 rfl (by decide +kernel), tk_at 5 (by decide +kernel) (by decide +kernel), by decide, by decide +kernel, by decide +kernel⟩, tk_at 432 (by decide +kernel) (by decide +kernel), tk_sl (by decide +kernel) (by decide +kernel)⟩
abbrev c_S_cents : ByteArray := prog_6_method_6_code
def y_S_cents : MethodName := ⟨"ChargePlans$Sums", "cents", "(I)I"⟩
abbrev w_S_cents : Cond := .code y_S_cents c_S_cents 2 (some .int)
set_option maxRecDepth 20000 in
theorem k_S_cents : tk_CV y_S_cents w_S_cents 2 1 := ⟨⟨tk_isC_code, tk_ac 437 rfl (by decide +kernel), tk_at 5 (by decide +kernel) (by decide +kernel), by decide, by decide +kernel, by decide +kernel⟩, tk_at 436 (by decide +kernel) (by decide +kernel), tk_sl (by decide +kernel) (by decide +kernel)⟩
abbrev c_S_settle : ByteArray := prog_6_method_4_code
def y_S_settle : MethodName := ⟨"ChargePlans$Sums", "settle", "(I)V"⟩
abbrev w_S_settle : Cond := .code y_S_settle c_S_settle 4 none
set_option maxRecDepth 20000 in
theorem k_S_settle : tk_CV y_S_settle w_S_settle 4 1 := ⟨⟨tk_isC_code, tk_ac 441 rfl (by decide +kernel), tk_at 5 (by decide +kernel) (by decide +kernel), by decide, by decide +kernel, by decide +kernel⟩, tk_at 440 (by decide +kernel) (by decide +kernel), tk_sl (by decide +kernel) (by decide +kernel)⟩
abbrev c_S_addBundle : ByteArray := prog_6_method_5_code
def y_S_addBundle : MethodName := ⟨"ChargePlans$Sums", "addBundle", "(I)V"⟩
abbrev w_S_addBundle : Cond := .code y_S_addBundle c_S_addBundle 4 none
set_option maxRecDepth 20000 in
theorem k_S_addBundle : tk_CV y_S_addBundle w_S_addBundle 4 1 := ⟨⟨tk_isC_code, tk_ac 445 rfl (by decide +kernel), tk_at 5 (by decide +kernel) (by decide +kernel), by decide, by decide +kernel, by decide +kernel⟩, tk_at 444 (by decide +kernel) (by decide +kernel), tk_sl (by decide +kernel) (by decide +kernel)⟩
abbrev c_P_givenUp : ByteArray := prog_5_method_4_code
def y_P_givenUp : MethodName := ⟨"ChargePlans$Planning", "givenUp", "(I)Z"⟩
abbrev w_P_givenUp : Cond := .code y_P_givenUp c_P_givenUp 2 (some .boolean)
set_option maxRecDepth 20000 in
theorem k_P_givenUp : tk_CV y_P_givenUp w_P_givenUp 2 1 := ⟨⟨tk_isC_code, tk_ac 449 rfl (by decide +kernel), tk_at 4 (by decide +kernel) (by decide +kernel), by decide, by decide +kernel, by decide +kernel⟩, tk_at 448 (by decide +kernel) (by decide +kernel), tk_sl (by decide +kernel) (by decide +kernel)⟩
abbrev c_S_tooHeavy : ByteArray := prog_6_method_7_code
def y_S_tooHeavy : MethodName := ⟨"ChargePlans$Sums", "tooHeavy", "(I)Z"⟩
abbrev w_S_tooHeavy : Cond := .code y_S_tooHeavy c_S_tooHeavy 2 (some .boolean)
set_option maxRecDepth 20000 in
theorem k_S_tooHeavy : tk_CV y_S_tooHeavy w_S_tooHeavy 2 1 := ⟨⟨tk_isC_code, tk_ac 453 rfl (by decide +kernel), tk_at 5 (by decide +kernel) (by decide +kernel), by decide, by decide +kernel, by decide +kernel⟩, tk_at 452 (by decide +kernel) (by decide +kernel), tk_sl (by decide +kernel) (by decide +kernel)⟩
abbrev c_H_keepPlan : ByteArray := prog_4_method_4_code
def y_H_keepPlan : MethodName := ⟨"ChargePlans$Heats", "keepPlan", "(I[II)V"⟩
abbrev w_H_keepPlan : Cond := .code y_H_keepPlan c_H_keepPlan 5 none
set_option maxRecDepth 20000 in
theorem k_H_keepPlan : tk_CV y_H_keepPlan w_H_keepPlan 5 3 := ⟨⟨tk_isC_code, tk_ac 457 rfl (by decide +kernel), tk_at 3 (by decide +kernel) (by decide +kernel), by decide, by decide +kernel, by decide +kernel⟩, tk_at 456 (by decide +kernel) (by decide +kernel), tk_sl (by decide +kernel) (by decide +kernel)⟩
abbrev c_L_planned : ByteArray := method_11_code
def y_L_planned : MethodName := ⟨"ChargePlansLaw", "planned", "(LChargePlans;I[J)I"⟩
abbrev h_L_planned : List (Nat × Nat × Nat × Nat) := [(0, 9, 12, 21), (0, 9, 15, 13)]
abbrev w_L_planned : Cond := .codeWith y_L_planned c_L_planned 4 (some .int) h_L_planned
set_option maxRecDepth 20000 in
theorem k_L_planned : tk_CS y_L_planned w_L_planned 4 3 := ⟨⟨tk_isC_with, tk_ac 460 rfl (by decide +kernel), tk_at 0 (by decide +kernel) (by decide +kernel), by decide, by decide +kernel, by decide +kernel⟩, tk_at 459 (by decide +kernel) (by decide +kernel)⟩
abbrev c_CP_planned : ByteArray := prog_1_method_10_code
def y_CP_planned : MethodName := ⟨"ChargePlans", "planned", "(I)I"⟩
abbrev w_CP_planned : Cond := .code y_CP_planned c_CP_planned 2 (some .int)
set_option maxRecDepth 20000 in
theorem k_CP_planned : tk_CV y_CP_planned w_CP_planned 2 1 := ⟨⟨tk_isC_code, tk_ac 464 rfl (by decide +kernel), tk_at 1 (by decide +kernel) (by decide +kernel), by decide, by decide +kernel, by decide +kernel⟩, tk_at 462 (by decide +kernel) (by decide +kernel), tk_at 463 (by decide +kernel) (by decide +kernel)⟩
abbrev c_L_amount : ByteArray := method_12_code
def y_L_amount : MethodName := ⟨"ChargePlansLaw", "amount", "(LChargePlans;II[J)I"⟩
abbrev h_L_amount : List (Nat × Nat × Nat × Nat) := [(0, 10, 13, 21), (0, 10, 17, 13)]
abbrev w_L_amount : Cond := .codeWith y_L_amount c_L_amount 5 (some .int) h_L_amount
set_option maxRecDepth 20000 in
theorem k_L_amount : tk_CS y_L_amount w_L_amount 5 4 := ⟨⟨tk_isC_with, tk_ac 467 rfl (by decide +kernel), tk_at 0 (by decide +kernel) (by decide +kernel), by decide, by decide +kernel, by decide +kernel⟩, tk_at 466 (by decide +kernel) (by decide +kernel)⟩
abbrev c_CP_amount : ByteArray := prog_1_method_11_code
def y_CP_amount : MethodName := ⟨"ChargePlans", "amount", "(II)I"⟩
abbrev w_CP_amount : Cond := .code y_CP_amount c_CP_amount 3 (some .int)
set_option maxRecDepth 20000 in
theorem k_CP_amount : tk_CV y_CP_amount w_CP_amount 3 2 := ⟨⟨tk_isC_code, tk_ac 471 rfl (by decide +kernel), tk_at 1 (by decide +kernel) (by decide +kernel), by decide, by decide +kernel, by decide +kernel⟩, tk_at 469 (by decide +kernel) (by decide +kernel), tk_at 470 (by decide +kernel) (by decide +kernel)⟩
abbrev c_H_hasPlan : ByteArray := prog_4_method_3_code
def y_H_hasPlan : MethodName := ⟨"ChargePlans$Heats", "hasPlan", "(I)Z"⟩
abbrev w_H_hasPlan : Cond := .code y_H_hasPlan c_H_hasPlan 2 (some .boolean)
set_option maxRecDepth 20000 in
theorem k_H_hasPlan : tk_CV y_H_hasPlan w_H_hasPlan 2 1 := ⟨⟨tk_isC_code, tk_ac 475 rfl (by decide +kernel), tk_at 3 (by decide +kernel) (by decide +kernel), by decide, by decide +kernel, by decide +kernel⟩, tk_at 474 (by decide +kernel) (by decide +kernel), tk_sl (by decide +kernel) (by decide +kernel)⟩
abbrev c_L_worst : ByteArray := method_13_code
def y_L_worst : MethodName := ⟨"ChargePlansLaw", "worst", "(LChargePlans;IIII[J)I"⟩
abbrev h_L_worst : List (Nat × Nat × Nat × Nat) := [(0, 13, 16, 21), (0, 13, 20, 13), (0, 13, 24, 31)]
abbrev w_L_worst : Cond := .codeWith y_L_worst c_L_worst 7 (some .int) h_L_worst
set_option maxRecDepth 20000 in
theorem k_L_worst : tk_CS y_L_worst w_L_worst 7 6 := ⟨⟨tk_isC_with, tk_ac 478 rfl (by decide +kernel), tk_at 0 (by decide +kernel) (by decide +kernel), by decide, by decide +kernel, by decide +kernel⟩, tk_at 477 (by decide +kernel) (by decide +kernel)⟩
abbrev c_CP_worst : ByteArray := prog_1_method_12_code
def y_CP_worst : MethodName := ⟨"ChargePlans", "worst", "(IIII)J"⟩
abbrev w_CP_worst : Cond := .code y_CP_worst c_CP_worst 9 (some .long)
set_option maxRecDepth 20000 in
theorem k_CP_worst : tk_CV y_CP_worst w_CP_worst 9 4 := ⟨⟨tk_isC_code, tk_ac 482 rfl (by decide +kernel), tk_at 1 (by decide +kernel) (by decide +kernel), by decide, by decide +kernel, by decide +kernel⟩, tk_at 480 (by decide +kernel) (by decide +kernel), tk_at 481 (by decide +kernel) (by decide +kernel)⟩
abbrev c_CP_plannedKilos : ByteArray := prog_1_method_18_code
def y_CP_plannedKilos : MethodName := ⟨"ChargePlans", "plannedKilos", "(I)J"⟩
abbrev w_CP_plannedKilos : Cond := .code y_CP_plannedKilos c_CP_plannedKilos 5 (some .long)
set_option maxRecDepth 20000 in
theorem k_CP_plannedKilos : tk_CV y_CP_plannedKilos w_CP_plannedKilos 5 1 := ⟨⟨tk_isC_code, tk_ac 486 rfl (by decide +kernel), tk_at 1 (by decide +kernel) (by decide +kernel), by decide, by decide +kernel, by decide +kernel⟩, tk_at 485 (by decide +kernel) (by decide +kernel), tk_sl (by decide +kernel) (by decide +kernel)⟩
abbrev c_CP_plannedShares : ByteArray := prog_1_method_19_code
def y_CP_plannedShares : MethodName := ⟨"ChargePlans", "plannedShares", "(II[I)J"⟩
abbrev w_CP_plannedShares : Cond := .code y_CP_plannedShares c_CP_plannedShares 9 (some .long)
set_option maxRecDepth 20000 in
theorem k_CP_plannedShares : tk_CV y_CP_plannedShares w_CP_plannedShares 9 3 := ⟨⟨tk_isC_code, tk_ac 490 rfl (by decide +kernel), tk_at 1 (by decide +kernel) (by decide +kernel), by decide, by decide +kernel, by decide +kernel⟩, tk_at 489 (by decide +kernel) (by decide +kernel), tk_sl (by decide +kernel) (by decide +kernel)⟩
abbrev c_CP_commonDivisor : ByteArray := prog_1_method_20_code
def y_CP_commonDivisor : MethodName := ⟨"ChargePlans", "commonDivisor", "(JJ)J"⟩
abbrev w_CP_commonDivisor : Cond := .code y_CP_commonDivisor c_CP_commonDivisor 11 (some .long)
set_option maxRecDepth 20000 in
theorem k_CP_commonDivisor : tk_CS y_CP_commonDivisor w_CP_commonDivisor 11 2 := ⟨⟨tk_isC_code, tk_ac 493 rfl (by decide +kernel), tk_at 1 (by decide +kernel) (by decide +kernel), by decide, by decide +kernel, by decide +kernel⟩, tk_at 492 (by decide +kernel) (by decide +kernel)⟩
abbrev c_L_bound : ByteArray := method_14_code
def y_L_bound : MethodName := ⟨"ChargePlansLaw", "bound", "(LChargePlans;I[J)I"⟩
abbrev h_L_bound : List (Nat × Nat × Nat × Nat) := [(0, 8, 11, 21), (0, 8, 14, 31)]
abbrev w_L_bound : Cond := .codeWith y_L_bound c_L_bound 4 (some .int) h_L_bound
set_option maxRecDepth 20000 in
theorem k_L_bound : tk_CS y_L_bound w_L_bound 4 3 := ⟨⟨tk_isC_with, tk_ac 499 rfl (by decide +kernel), tk_at 0 (by decide +kernel) (by decide +kernel), by decide, by decide +kernel, by decide +kernel⟩, tk_at 498 (by decide +kernel) (by decide +kernel)⟩
abbrev c_CP_bound : ByteArray := prog_1_method_13_code
def y_CP_bound : MethodName := ⟨"ChargePlans", "bound", "(I)J"⟩
abbrev w_CP_bound : Cond := .code y_CP_bound c_CP_bound 9 (some .long)
set_option maxRecDepth 20000 in
theorem k_CP_bound : tk_CV y_CP_bound w_CP_bound 9 1 := ⟨⟨tk_isC_code, tk_ac 503 rfl (by decide +kernel), tk_at 1 (by decide +kernel) (by decide +kernel), by decide, by decide +kernel, by decide +kernel⟩, tk_at 501 (by decide +kernel) (by decide +kernel), tk_at 502 (by decide +kernel) (by decide +kernel)⟩
abbrev c_L_clash : ByteArray := method_15_code
def y_L_clash : MethodName := ⟨"ChargePlansLaw", "clash", "(LChargePlans;I[J)I"⟩
abbrev h_L_clash : List (Nat × Nat × Nat × Nat) := [(0, 9, 12, 21)]
abbrev w_L_clash : Cond := .codeWith y_L_clash c_L_clash 4 (some .int) h_L_clash
set_option maxRecDepth 20000 in
theorem k_L_clash : tk_CS y_L_clash w_L_clash 4 3 := ⟨⟨tk_isC_with, tk_ac 511 rfl (by decide +kernel), tk_at 0 (by decide +kernel) (by decide +kernel), by decide, by decide +kernel, by decide +kernel⟩, tk_at 510 (by decide +kernel) (by decide +kernel)⟩
abbrev c_CP_clash : ByteArray := prog_1_method_14_code
def y_CP_clash : MethodName := ⟨"ChargePlans", "clash", "(I)I"⟩
abbrev w_CP_clash : Cond := .code y_CP_clash c_CP_clash 2 (some .int)
set_option maxRecDepth 20000 in
theorem k_CP_clash : tk_CV y_CP_clash w_CP_clash 2 1 := ⟨⟨tk_isC_code, tk_ac 515 rfl (by decide +kernel), tk_at 1 (by decide +kernel) (by decide +kernel), by decide, by decide +kernel, by decide +kernel⟩, tk_at 513 (by decide +kernel) (by decide +kernel), tk_at 514 (by decide +kernel) (by decide +kernel)⟩
abbrev c_C_find : ByteArray := prog_2_method_2_code
def y_C_find : MethodName := ⟨"ChargePlans$Clashing", "find", "(LChargePlans$Goods;LChargePlans$Heats;I)I"⟩
abbrev w_C_find : Cond := .code y_C_find c_C_find 7 (some .int)
set_option maxRecDepth 20000 in
theorem k_C_find : tk_CV y_C_find w_C_find 7 3 := ⟨⟨tk_isC_code, tk_ac 519 rfl (by decide +kernel), tk_at 6 (by decide +kernel) (by decide +kernel), by decide, by decide +kernel, by decide +kernel⟩, tk_at 518 (by decide +kernel) (by decide +kernel), tk_sl (by decide +kernel) (by decide +kernel)⟩
abbrev c_C_walk : ByteArray := prog_2_method_3_code
def y_C_walk : MethodName := ⟨"ChargePlans$Clashing", "walk", "(I)V"⟩
abbrev w_C_walk : Cond := .code y_C_walk c_C_walk 3 none
set_option maxRecDepth 20000 in
theorem k_C_walk : tk_CV y_C_walk w_C_walk 3 1 := ⟨⟨tk_isC_code, tk_ac 524 rfl (by decide +kernel), tk_at 6 (by decide +kernel) (by decide +kernel), by decide, by decide +kernel, by decide +kernel⟩, tk_at 523 (by decide +kernel) (by decide +kernel), tk_sl (by decide +kernel) (by decide +kernel)⟩
abbrev c_C_someChargeHolds : ByteArray := prog_2_method_4_code
def y_C_someChargeHolds : MethodName := ⟨"ChargePlans$Clashing", "someChargeHolds", "(I)Z"⟩
abbrev w_C_someChargeHolds : Cond := .code y_C_someChargeHolds c_C_someChargeHolds 3 (some .boolean)
set_option maxRecDepth 20000 in
theorem k_C_someChargeHolds : tk_CV y_C_someChargeHolds w_C_someChargeHolds 3 1 := ⟨⟨tk_isC_code, tk_ac 531 rfl (by decide +kernel), tk_at 6 (by decide +kernel) (by decide +kernel), by decide, by decide +kernel, by decide +kernel⟩, tk_at 530 (by decide +kernel) (by decide +kernel), tk_sl (by decide +kernel) (by decide +kernel)⟩
abbrev c_L_take : ByteArray := method_16_code
def y_L_take : MethodName := ⟨"ChargePlansLaw", "take", "(LChargePlans;I[J)I"⟩
abbrev h_L_take : List (Nat × Nat × Nat × Nat) := [(0, 9, 12, 21), (0, 9, 15, 13), (0, 9, 18, 31)]
abbrev w_L_take : Cond := .codeWith y_L_take c_L_take 4 (some .int) h_L_take
set_option maxRecDepth 20000 in
theorem k_L_take : tk_CS y_L_take w_L_take 4 3 := ⟨⟨tk_isC_with, tk_ac 534 rfl (by decide +kernel), tk_at 0 (by decide +kernel) (by decide +kernel), by decide, by decide +kernel, by decide +kernel⟩, tk_at 533 (by decide +kernel) (by decide +kernel)⟩
abbrev c_CP_take : ByteArray := prog_1_method_15_code
def y_CP_take : MethodName := ⟨"ChargePlans", "take", "(I)I"⟩
abbrev w_CP_take : Cond := .code y_CP_take c_CP_take 3 (some .int)
set_option maxRecDepth 20000 in
theorem k_CP_take : tk_CV y_CP_take w_CP_take 3 1 := ⟨⟨tk_isC_code, tk_ac 538 rfl (by decide +kernel), tk_at 1 (by decide +kernel) (by decide +kernel), by decide, by decide +kernel, by decide +kernel⟩, tk_at 536 (by decide +kernel) (by decide +kernel), tk_at 537 (by decide +kernel) (by decide +kernel)⟩
abbrev c_CP_enoughLeft : ByteArray := prog_1_method_17_code
def y_CP_enoughLeft : MethodName := ⟨"ChargePlans", "enoughLeft", "(I)Z"⟩
abbrev w_CP_enoughLeft : Cond := .code y_CP_enoughLeft c_CP_enoughLeft 3 (some .boolean)
set_option maxRecDepth 20000 in
theorem k_CP_enoughLeft : tk_CV y_CP_enoughLeft w_CP_enoughLeft 3 1 := ⟨⟨tk_isC_code, tk_ac 542 rfl (by decide +kernel), tk_at 1 (by decide +kernel) (by decide +kernel), by decide, by decide +kernel, by decide +kernel⟩, tk_at 541 (by decide +kernel) (by decide +kernel), tk_sl (by decide +kernel) (by decide +kernel)⟩
abbrev c_L_stock : ByteArray := method_17_code
def y_L_stock : MethodName := ⟨"ChargePlansLaw", "stock", "(LChargePlans;I[J)I"⟩
abbrev h_L_stock : List (Nat × Nat × Nat × Nat) := [(0, 9, 12, 21)]
abbrev w_L_stock : Cond := .codeWith y_L_stock c_L_stock 4 (some .int) h_L_stock
set_option maxRecDepth 20000 in
theorem k_L_stock : tk_CS y_L_stock w_L_stock 4 3 := ⟨⟨tk_isC_with, tk_ac 545 rfl (by decide +kernel), tk_at 0 (by decide +kernel) (by decide +kernel), by decide, by decide +kernel, by decide +kernel⟩, tk_at 544 (by decide +kernel) (by decide +kernel)⟩
abbrev c_CP_stock : ByteArray := prog_1_method_16_code
def y_CP_stock : MethodName := ⟨"ChargePlans", "stock", "(I)I"⟩
abbrev w_CP_stock : Cond := .code y_CP_stock c_CP_stock 2 (some .int)
set_option maxRecDepth 20000 in
theorem k_CP_stock : tk_CV y_CP_stock w_CP_stock 2 1 := ⟨⟨tk_isC_code, tk_ac 549 rfl (by decide +kernel), tk_at 1 (by decide +kernel) (by decide +kernel), by decide, by decide +kernel, by decide +kernel⟩, tk_at 547 (by decide +kernel) (by decide +kernel), tk_at 548 (by decide +kernel) (by decide +kernel)⟩
abbrev c_M_init : ByteArray := prog_8_method_1_code
def y_M_init : MethodName := ⟨"ChargePlansModel", "<init>", "()V"⟩
abbrev w_M_init : Cond := .code y_M_init c_M_init 1 none
set_option maxRecDepth 20000 in
theorem k_M_init : tk_CI y_M_init w_M_init 1 0 := ⟨⟨tk_isC_code, tk_ac 554 rfl (by decide +kernel), tk_at 7 (by decide +kernel) (by decide +kernel), by decide, by decide +kernel, by decide +kernel⟩, tk_at 553 (by decide +kernel) (by decide +kernel), rfl, _, rfl⟩
abbrev c_M_thrown : ByteArray := prog_8_method_2_code
def y_M_thrown : MethodName := ⟨"ChargePlansModel", "thrown", "()I"⟩
abbrev w_M_thrown : Cond := .code y_M_thrown c_M_thrown 1 (some .int)
set_option maxRecDepth 20000 in
theorem k_M_thrown : tk_CV y_M_thrown w_M_thrown 1 0 := ⟨⟨tk_isC_code, tk_ac 624 rfl (by decide +kernel), tk_at 7 (by decide +kernel) (by decide +kernel), by decide, by decide +kernel, by decide +kernel⟩, tk_at 622 (by decide +kernel) (by decide +kernel), tk_at 623 (by decide +kernel) (by decide +kernel)⟩
abbrev c_M_good : ByteArray := prog_8_method_7_code
def y_M_good : MethodName := ⟨"ChargePlansModel", "good", "(III)I"⟩
abbrev w_M_good : Cond := .code y_M_good c_M_good 4 (some .int)
set_option maxRecDepth 20000 in
theorem k_M_good : tk_CV y_M_good w_M_good 4 3 := ⟨⟨tk_isC_code, tk_ac 628 rfl (by decide +kernel), tk_at 7 (by decide +kernel) (by decide +kernel), by decide, by decide +kernel, by decide +kernel⟩, tk_at 626 (by decide +kernel) (by decide +kernel), tk_at 627 (by decide +kernel) (by decide +kernel)⟩
abbrev c_M_in : ByteArray := prog_8_method_4_code
def y_M_in : MethodName := ⟨"ChargePlansModel", "in", "(JJJ)Z"⟩
abbrev w_M_in : Cond := .code y_M_in c_M_in 6 (some .boolean)
set_option maxRecDepth 20000 in
theorem k_M_in : tk_CS y_M_in w_M_in 6 3 := ⟨⟨tk_isC_code, tk_ac 632 rfl (by decide +kernel), tk_at 7 (by decide +kernel) (by decide +kernel), by decide, by decide +kernel, by decide +kernel⟩, tk_at 631 (by decide +kernel) (by decide +kernel)⟩
abbrev c_M_throwing : ByteArray := prog_8_method_3_code
def y_M_throwing : MethodName := ⟨"ChargePlansModel", "throwing", "(ZZZ)Z"⟩
abbrev w_M_throwing : Cond := .code y_M_throwing c_M_throwing 4 (some .boolean)
set_option maxRecDepth 20000 in
theorem k_M_throwing : tk_CV y_M_throwing w_M_throwing 4 3 := ⟨⟨tk_isC_code, tk_ac 638 rfl (by decide +kernel), tk_at 7 (by decide +kernel) (by decide +kernel), by decide, by decide +kernel, by decide +kernel⟩, tk_at 637 (by decide +kernel) (by decide +kernel), tk_sl (by decide +kernel) (by decide +kernel)⟩
abbrev c_M_element : ByteArray := prog_8_method_9_code
def y_M_element : MethodName := ⟨"ChargePlansModel", "element", "(IIII)V"⟩
abbrev w_M_element : Cond := .code y_M_element c_M_element 5 none
set_option maxRecDepth 20000 in
theorem k_M_element : tk_CV y_M_element w_M_element 5 4 := ⟨⟨tk_isC_code, tk_ac 642 rfl (by decide +kernel), tk_at 7 (by decide +kernel) (by decide +kernel), by decide, by decide +kernel, by decide +kernel⟩, tk_at 640 (by decide +kernel) (by decide +kernel), tk_at 641 (by decide +kernel) (by decide +kernel)⟩
abbrev c_M_isGood : ByteArray := prog_8_method_5_code
def y_M_isGood : MethodName := ⟨"ChargePlansModel", "isGood", "(I)Z"⟩
abbrev w_M_isGood : Cond := .code y_M_isGood c_M_isGood 2 (some .boolean)
set_option maxRecDepth 20000 in
theorem k_M_isGood : tk_CV y_M_isGood w_M_isGood 2 1 := ⟨⟨tk_isC_code, tk_ac 646 rfl (by decide +kernel), tk_at 7 (by decide +kernel) (by decide +kernel), by decide, by decide +kernel, by decide +kernel⟩, tk_at 645 (by decide +kernel) (by decide +kernel), tk_sl (by decide +kernel) (by decide +kernel)⟩
abbrev c_M_isSpan : ByteArray := prog_8_method_8_code
def y_M_isSpan : MethodName := ⟨"ChargePlansModel", "isSpan", "(II)Z"⟩
abbrev w_M_isSpan : Cond := .code y_M_isSpan c_M_isSpan 2 (some .boolean)
set_option maxRecDepth 20000 in
theorem k_M_isSpan : tk_CS y_M_isSpan w_M_isSpan 2 2 := ⟨⟨tk_isC_code, tk_ac 650 rfl (by decide +kernel), tk_at 7 (by decide +kernel) (by decide +kernel), by decide, by decide +kernel, by decide +kernel⟩, tk_at 649 (by decide +kernel) (by decide +kernel)⟩
abbrev c_M_limit : ByteArray := prog_8_method_10_code
def y_M_limit : MethodName := ⟨"ChargePlansModel", "limit", "(II)V"⟩
abbrev w_M_limit : Cond := .code y_M_limit c_M_limit 3 none
set_option maxRecDepth 20000 in
theorem k_M_limit : tk_CV y_M_limit w_M_limit 3 2 := ⟨⟨tk_isC_code, tk_ac 655 rfl (by decide +kernel), tk_at 7 (by decide +kernel) (by decide +kernel), by decide, by decide +kernel, by decide +kernel⟩, tk_at 653 (by decide +kernel) (by decide +kernel), tk_at 654 (by decide +kernel) (by decide +kernel)⟩
abbrev c_M_arrive : ByteArray := prog_8_method_11_code
def y_M_arrive : MethodName := ⟨"ChargePlansModel", "arrive", "(II)I"⟩
abbrev w_M_arrive : Cond := .code y_M_arrive c_M_arrive 4 (some .int)
set_option maxRecDepth 20000 in
theorem k_M_arrive : tk_CV y_M_arrive w_M_arrive 4 2 := ⟨⟨tk_isC_code, tk_ac 659 rfl (by decide +kernel), tk_at 7 (by decide +kernel) (by decide +kernel), by decide, by decide +kernel, by decide +kernel⟩, tk_at 657 (by decide +kernel) (by decide +kernel), tk_at 658 (by decide +kernel) (by decide +kernel)⟩
abbrev c_M_stock : ByteArray := prog_8_method_12_code
def y_M_stock : MethodName := ⟨"ChargePlansModel", "stock", "(I)I"⟩
abbrev w_M_stock : Cond := .code y_M_stock c_M_stock 2 (some .int)
set_option maxRecDepth 20000 in
theorem k_M_stock : tk_CV y_M_stock w_M_stock 2 1 := ⟨⟨tk_isC_code, tk_ac 663 rfl (by decide +kernel), tk_at 7 (by decide +kernel) (by decide +kernel), by decide, by decide +kernel, by decide +kernel⟩, tk_at 661 (by decide +kernel) (by decide +kernel), tk_at 662 (by decide +kernel) (by decide +kernel)⟩
abbrev c_M_heat : ByteArray := prog_8_method_13_code
def y_M_heat : MethodName := ⟨"ChargePlansModel", "heat", "(II)I"⟩
abbrev w_M_heat : Cond := .code y_M_heat c_M_heat 4 (some .int)
set_option maxRecDepth 20000 in
theorem k_M_heat : tk_CV y_M_heat w_M_heat 4 2 := ⟨⟨tk_isC_code, tk_ac 667 rfl (by decide +kernel), tk_at 7 (by decide +kernel) (by decide +kernel), by decide, by decide +kernel, by decide +kernel⟩, tk_at 665 (by decide +kernel) (by decide +kernel), tk_at 666 (by decide +kernel) (by decide +kernel)⟩
abbrev c_M_span : ByteArray := prog_8_method_14_code
def y_M_span : MethodName := ⟨"ChargePlansModel", "span", "(IIII)V"⟩
abbrev w_M_span : Cond := .code y_M_span c_M_span 5 none
set_option maxRecDepth 20000 in
theorem k_M_span : tk_CV y_M_span w_M_span 5 4 := ⟨⟨tk_isC_code, tk_ac 671 rfl (by decide +kernel), tk_at 7 (by decide +kernel) (by decide +kernel), by decide, by decide +kernel, by decide +kernel⟩, tk_at 669 (by decide +kernel) (by decide +kernel), tk_at 670 (by decide +kernel) (by decide +kernel)⟩
abbrev c_M_isHeat : ByteArray := prog_8_method_6_code
def y_M_isHeat : MethodName := ⟨"ChargePlansModel", "isHeat", "(I)Z"⟩
abbrev w_M_isHeat : Cond := .code y_M_isHeat c_M_isHeat 2 (some .boolean)
set_option maxRecDepth 20000 in
theorem k_M_isHeat : tk_CV y_M_isHeat w_M_isHeat 2 1 := ⟨⟨tk_isC_code, tk_ac 675 rfl (by decide +kernel), tk_at 7 (by decide +kernel) (by decide +kernel), by decide, by decide +kernel, by decide +kernel⟩, tk_at 674 (by decide +kernel) (by decide +kernel), tk_sl (by decide +kernel) (by decide +kernel)⟩
abbrev c_M_most : ByteArray := prog_8_method_15_code
def y_M_most : MethodName := ⟨"ChargePlansModel", "most", "(II)V"⟩
abbrev w_M_most : Cond := .code y_M_most c_M_most 3 none
set_option maxRecDepth 20000 in
theorem k_M_most : tk_CV y_M_most w_M_most 3 2 := ⟨⟨tk_isC_code, tk_ac 679 rfl (by decide +kernel), tk_at 7 (by decide +kernel) (by decide +kernel), by decide, by decide +kernel, by decide +kernel⟩, tk_at 677 (by decide +kernel) (by decide +kernel), tk_at 678 (by decide +kernel) (by decide +kernel)⟩
abbrev c_M_plan : ByteArray := prog_8_method_20_code
def y_M_plan : MethodName := ⟨"ChargePlansModel", "plan", "(II)I"⟩
abbrev w_M_plan : Cond := .code y_M_plan c_M_plan 5 (some .int)
set_option maxRecDepth 20000 in
theorem k_M_plan : tk_CV y_M_plan w_M_plan 5 2 := ⟨⟨tk_isC_code, tk_ac 684 rfl (by decide +kernel), tk_at 7 (by decide +kernel) (by decide +kernel), by decide, by decide +kernel, by decide +kernel⟩, tk_at 682 (by decide +kernel) (by decide +kernel), tk_at 683 (by decide +kernel) (by decide +kernel)⟩
abbrev c_M_top : ByteArray := prog_8_method_16_code
def y_M_top : MethodName := ⟨"ChargePlansModel", "top", "(I)I"⟩
abbrev w_M_top : Cond := .code y_M_top c_M_top 2 (some .int)
set_option maxRecDepth 20000 in
theorem k_M_top : tk_CV y_M_top w_M_top 2 1 := ⟨⟨tk_isC_code, tk_ac 688 rfl (by decide +kernel), tk_at 7 (by decide +kernel) (by decide +kernel), by decide, by decide +kernel, by decide +kernel⟩, tk_at 687 (by decide +kernel) (by decide +kernel), tk_sl (by decide +kernel) (by decide +kernel)⟩
abbrev c_M_sum : ByteArray := prog_8_method_17_code
def y_M_sum : MethodName := ⟨"ChargePlansModel", "sum", "(II)I"⟩
abbrev w_M_sum : Cond := .code y_M_sum c_M_sum 5 (some .int)
set_option maxRecDepth 20000 in
theorem k_M_sum : tk_CV y_M_sum w_M_sum 5 2 := ⟨⟨tk_isC_code, tk_ac 692 rfl (by decide +kernel), tk_at 7 (by decide +kernel) (by decide +kernel), by decide, by decide +kernel, by decide +kernel⟩, tk_at 691 (by decide +kernel) (by decide +kernel), tk_sl (by decide +kernel) (by decide +kernel)⟩
abbrev c_M_broken : ByteArray := prog_8_method_18_code
def y_M_broken : MethodName := ⟨"ChargePlansModel", "broken", "(I)I"⟩
abbrev w_M_broken : Cond := .code y_M_broken c_M_broken 10 (some .int)
set_option maxRecDepth 20000 in
theorem k_M_broken : tk_CV y_M_broken w_M_broken 10 1 := ⟨⟨tk_isC_code, tk_ac 696 rfl (by decide +kernel), tk_at 7 (by decide +kernel) (by decide +kernel), by decide, by decide +kernel, by decide +kernel⟩, tk_at 695 (by decide +kernel) (by decide +kernel), tk_sl (by decide +kernel) (by decide +kernel)⟩
abbrev c_M_keep : ByteArray := prog_8_method_19_code
def y_M_keep : MethodName := ⟨"ChargePlansModel", "keep", "(I)V"⟩
abbrev w_M_keep : Cond := .code y_M_keep c_M_keep 3 none
set_option maxRecDepth 20000 in
theorem k_M_keep : tk_CV y_M_keep w_M_keep 3 1 := ⟨⟨tk_isC_code, tk_ac 700 rfl (by decide +kernel), tk_at 7 (by decide +kernel) (by decide +kernel), by decide, by decide +kernel, by decide +kernel⟩, tk_at 699 (by decide +kernel) (by decide +kernel), tk_sl (by decide +kernel) (by decide +kernel)⟩
abbrev c_M_planned : ByteArray := prog_8_method_21_code
def y_M_planned : MethodName := ⟨"ChargePlansModel", "planned", "(I)I"⟩
abbrev w_M_planned : Cond := .code y_M_planned c_M_planned 2 (some .int)
set_option maxRecDepth 20000 in
theorem k_M_planned : tk_CV y_M_planned w_M_planned 2 1 := ⟨⟨tk_isC_code, tk_ac 704 rfl (by decide +kernel), tk_at 7 (by decide +kernel) (by decide +kernel), by decide, by decide +kernel, by decide +kernel⟩, tk_at 702 (by decide +kernel) (by decide +kernel), tk_at 703 (by decide +kernel) (by decide +kernel)⟩
abbrev c_M_amount : ByteArray := prog_8_method_23_code
def y_M_amount : MethodName := ⟨"ChargePlansModel", "amount", "(II)I"⟩
abbrev w_M_amount : Cond := .code y_M_amount c_M_amount 3 (some .int)
set_option maxRecDepth 20000 in
theorem k_M_amount : tk_CV y_M_amount w_M_amount 3 2 := ⟨⟨tk_isC_code, tk_ac 708 rfl (by decide +kernel), tk_at 7 (by decide +kernel) (by decide +kernel), by decide, by decide +kernel, by decide +kernel⟩, tk_at 706 (by decide +kernel) (by decide +kernel), tk_at 707 (by decide +kernel) (by decide +kernel)⟩
abbrev c_M_hasPlan : ByteArray := prog_8_method_22_code
def y_M_hasPlan : MethodName := ⟨"ChargePlansModel", "hasPlan", "(I)Z"⟩
abbrev w_M_hasPlan : Cond := .code y_M_hasPlan c_M_hasPlan 2 (some .boolean)
set_option maxRecDepth 20000 in
theorem k_M_hasPlan : tk_CV y_M_hasPlan w_M_hasPlan 2 1 := ⟨⟨tk_isC_code, tk_ac 712 rfl (by decide +kernel), tk_at 7 (by decide +kernel) (by decide +kernel), by decide, by decide +kernel, by decide +kernel⟩, tk_at 711 (by decide +kernel) (by decide +kernel), tk_sl (by decide +kernel) (by decide +kernel)⟩
abbrev c_M_worst : ByteArray := prog_8_method_25_code
def y_M_worst : MethodName := ⟨"ChargePlansModel", "worst", "(IIII)J"⟩
abbrev w_M_worst : Cond := .code y_M_worst c_M_worst 13 (some .long)
set_option maxRecDepth 20000 in
theorem k_M_worst : tk_CV y_M_worst w_M_worst 13 4 := ⟨⟨tk_isC_code, tk_ac 716 rfl (by decide +kernel), tk_at 7 (by decide +kernel) (by decide +kernel), by decide, by decide +kernel, by decide +kernel⟩, tk_at 714 (by decide +kernel) (by decide +kernel), tk_at 715 (by decide +kernel) (by decide +kernel)⟩
abbrev c_M_common : ByteArray := prog_8_method_24_code
def y_M_common : MethodName := ⟨"ChargePlansModel", "common", "(JJ)J"⟩
abbrev w_M_common : Cond := .code y_M_common c_M_common 10 (some .long)
set_option maxRecDepth 20000 in
theorem k_M_common : tk_CS y_M_common w_M_common 10 2 := ⟨⟨tk_isC_code, tk_ac 719 rfl (by decide +kernel), tk_at 7 (by decide +kernel) (by decide +kernel), by decide, by decide +kernel, by decide +kernel⟩, tk_at 718 (by decide +kernel) (by decide +kernel)⟩
abbrev c_M_bound : ByteArray := prog_8_method_26_code
def y_M_bound : MethodName := ⟨"ChargePlansModel", "bound", "(I)J"⟩
abbrev w_M_bound : Cond := .code y_M_bound c_M_bound 5 (some .long)
set_option maxRecDepth 20000 in
theorem k_M_bound : tk_CV y_M_bound w_M_bound 5 1 := ⟨⟨tk_isC_code, tk_ac 723 rfl (by decide +kernel), tk_at 7 (by decide +kernel) (by decide +kernel), by decide, by decide +kernel, by decide +kernel⟩, tk_at 721 (by decide +kernel) (by decide +kernel), tk_at 722 (by decide +kernel) (by decide +kernel)⟩
abbrev c_M_clash : ByteArray := prog_8_method_29_code
def y_M_clash : MethodName := ⟨"ChargePlansModel", "clash", "(I)I"⟩
abbrev w_M_clash : Cond := .code y_M_clash c_M_clash 4 (some .int)
set_option maxRecDepth 20000 in
theorem k_M_clash : tk_CV y_M_clash w_M_clash 4 1 := ⟨⟨tk_isC_code, tk_ac 727 rfl (by decide +kernel), tk_at 7 (by decide +kernel) (by decide +kernel), by decide, by decide +kernel, by decide +kernel⟩, tk_at 725 (by decide +kernel) (by decide +kernel), tk_at 726 (by decide +kernel) (by decide +kernel)⟩
abbrev c_M_lookAtAll : ByteArray := prog_8_method_27_code
def y_M_lookAtAll : MethodName := ⟨"ChargePlansModel", "lookAtAll", "(I)V"⟩
abbrev w_M_lookAtAll : Cond := .code y_M_lookAtAll c_M_lookAtAll 4 none
set_option maxRecDepth 20000 in
theorem k_M_lookAtAll : tk_CV y_M_lookAtAll w_M_lookAtAll 4 1 := ⟨⟨tk_isC_code, tk_ac 731 rfl (by decide +kernel), tk_at 7 (by decide +kernel) (by decide +kernel), by decide, by decide +kernel, by decide +kernel⟩, tk_at 730 (by decide +kernel) (by decide +kernel), tk_sl (by decide +kernel) (by decide +kernel)⟩
abbrev c_M_isSome : ByteArray := prog_8_method_28_code
def y_M_isSome : MethodName := ⟨"ChargePlansModel", "isSome", "(I)Z"⟩
abbrev w_M_isSome : Cond := .code y_M_isSome c_M_isSome 4 (some .boolean)
set_option maxRecDepth 20000 in
theorem k_M_isSome : tk_CV y_M_isSome w_M_isSome 4 1 := ⟨⟨tk_isC_code, tk_ac 735 rfl (by decide +kernel), tk_at 7 (by decide +kernel) (by decide +kernel), by decide, by decide +kernel, by decide +kernel⟩, tk_at 734 (by decide +kernel) (by decide +kernel), tk_sl (by decide +kernel) (by decide +kernel)⟩
abbrev c_M_take : ByteArray := prog_8_method_30_code
def y_M_take : MethodName := ⟨"ChargePlansModel", "take", "(I)I"⟩
abbrev w_M_take : Cond := .code y_M_take c_M_take 5 (some .int)
set_option maxRecDepth 20000 in
theorem k_M_take : tk_CV y_M_take w_M_take 5 1 := ⟨⟨tk_isC_code, tk_ac 739 rfl (by decide +kernel), tk_at 7 (by decide +kernel) (by decide +kernel), by decide, by decide +kernel, by decide +kernel⟩, tk_at 737 (by decide +kernel) (by decide +kernel), tk_at 738 (by decide +kernel) (by decide +kernel)⟩
theorem l_L_69 : tk_ML "ChargePlansLaw" 69 y_CP_init := Or.inl (tk_at 18 (by decide +kernel) (by decide +kernel))
theorem l_CP_9 : tk_ML "ChargePlans" 9 y_G_init := Or.inr ⟨"ChargePlans", tk_at 26 (by decide +kernel) (by decide +kernel)⟩
theorem l_CP_18 : tk_ML "ChargePlans" 18 y_H_init := Or.inr ⟨"ChargePlans", tk_at 67 (by decide +kernel) (by decide +kernel)⟩
theorem l_CP_25 : tk_ML "ChargePlans" 25 y_P_init := Or.inr ⟨"ChargePlans", tk_at 110 (by decide +kernel) (by decide +kernel)⟩
theorem l_P_11 : tk_ML "ChargePlans$Planning" 11 y_S_init := Or.inr ⟨"ChargePlans", tk_at 116 (by decide +kernel) (by decide +kernel)⟩
theorem l_CP_32 : tk_ML "ChargePlans" 32 y_C_init := Or.inr ⟨"ChargePlans", tk_at 169 (by decide +kernel) (by decide +kernel)⟩
theorem l_C_11 : tk_ML "ChargePlans$Clashing" 11 y_S_init := Or.inr ⟨"ChargePlans", tk_at 174 (by decide +kernel) (by decide +kernel)⟩
theorem l_L_73 : tk_ML "ChargePlansLaw" 73 y_L_good := Or.inl (tk_at 199 (by decide +kernel) (by decide +kernel))
theorem l_L_7 : tk_ML "ChargePlansLaw" 7 y_CP_good := Or.inl (tk_at 204 (by decide +kernel) (by decide +kernel))
theorem l_CP_41 : tk_ML "ChargePlans" 41 y_CP_requireTurn := Or.inl (tk_at 208 (by decide +kernel) (by decide +kernel))
theorem l_CP_45 : tk_ML "ChargePlans" 45 y_CP_requireRange := Or.inl (tk_at 280 (by decide +kernel) (by decide +kernel))
theorem l_CP_72 : tk_ML "ChargePlans" 72 y_CP_requireArgument := Or.inl (tk_at 283 (by decide +kernel) (by decide +kernel))
theorem l_CP_50 : tk_ML "ChargePlans" 50 y_G_append := Or.inr ⟨"ChargePlans", tk_at 303 (by decide +kernel) (by decide +kernel)⟩
theorem l_L_83 : tk_ML "ChargePlansLaw" 83 y_L_element := Or.inl (tk_at 307 (by decide +kernel) (by decide +kernel))
theorem l_L_17 : tk_ML "ChargePlansLaw" 17 y_CP_element := Or.inl (tk_at 311 (by decide +kernel) (by decide +kernel))
theorem l_CP_54 : tk_ML "ChargePlans" 54 y_CP_requireIndex := Or.inl (tk_at 315 (by decide +kernel) (by decide +kernel))
theorem l_CP_58 : tk_ML "ChargePlans" 58 y_CP_requireSpan := Or.inl (tk_at 334 (by decide +kernel) (by decide +kernel))
theorem l_L_87 : tk_ML "ChargePlansLaw" 87 y_L_limit := Or.inl (tk_at 337 (by decide +kernel) (by decide +kernel))
theorem l_L_23 : tk_ML "ChargePlansLaw" 23 y_CP_limit := Or.inl (tk_at 340 (by decide +kernel) (by decide +kernel))
theorem l_L_91 : tk_ML "ChargePlansLaw" 91 y_L_arrive := Or.inl (tk_at 344 (by decide +kernel) (by decide +kernel))
theorem l_L_27 : tk_ML "ChargePlansLaw" 27 y_CP_arrive := Or.inl (tk_at 348 (by decide +kernel) (by decide +kernel))
theorem l_CP_78 : tk_ML "ChargePlans" 78 y_CP_requireMeaning := Or.inl (tk_at 352 (by decide +kernel) (by decide +kernel))
theorem l_L_95 : tk_ML "ChargePlansLaw" 95 y_L_heat := Or.inl (tk_at 371 (by decide +kernel) (by decide +kernel))
theorem l_L_33 : tk_ML "ChargePlansLaw" 33 y_CP_heat := Or.inl (tk_at 374 (by decide +kernel) (by decide +kernel))
theorem l_CP_82 : tk_ML "ChargePlans" 82 y_H_append := Or.inr ⟨"ChargePlans", tk_at 378 (by decide +kernel) (by decide +kernel)⟩
theorem l_L_98 : tk_ML "ChargePlansLaw" 98 y_L_span := Or.inl (tk_at 382 (by decide +kernel) (by decide +kernel))
theorem l_L_36 : tk_ML "ChargePlansLaw" 36 y_CP_span := Or.inl (tk_at 385 (by decide +kernel) (by decide +kernel))
theorem l_L_101 : tk_ML "ChargePlansLaw" 101 y_L_most := Or.inl (tk_at 389 (by decide +kernel) (by decide +kernel))
theorem l_L_39 : tk_ML "ChargePlansLaw" 39 y_CP_most := Or.inl (tk_at 392 (by decide +kernel) (by decide +kernel))
theorem l_L_104 : tk_ML "ChargePlansLaw" 104 y_L_plan := Or.inl (tk_at 396 (by decide +kernel) (by decide +kernel))
theorem l_L_42 : tk_ML "ChargePlansLaw" 42 y_CP_plan := Or.inl (tk_at 399 (by decide +kernel) (by decide +kernel))
theorem l_CP_90 : tk_ML "ChargePlans" 90 y_P_search := Or.inr ⟨"ChargePlans", tk_at 403 (by decide +kernel) (by decide +kernel)⟩
theorem l_P_25 : tk_ML "ChargePlans$Planning" 25 y_S_load := Or.inr ⟨"ChargePlans", tk_at 407 (by decide +kernel) (by decide +kernel)⟩
theorem l_S_41 : tk_ML "ChargePlans$Sums" 41 y_G_room := Or.inr ⟨"ChargePlans", tk_at 411 (by decide +kernel) (by decide +kernel)⟩
theorem l_S_50 : tk_ML "ChargePlans$Sums" 50 y_S_loadElements := Or.inl (tk_at 418 (by decide +kernel) (by decide +kernel))
theorem l_P_46 : tk_ML "ChargePlans$Planning" 46 y_P_tryNumbers := Or.inl (tk_at 422 (by decide +kernel) (by decide +kernel))
theorem l_P_53 : tk_ML "ChargePlans$Planning" 53 y_P_keepIfAllHold := Or.inl (tk_at 426 (by decide +kernel) (by decide +kernel))
theorem l_P_76 : tk_ML "ChargePlans$Planning" 76 y_S_broken := Or.inr ⟨"ChargePlans", tk_at 430 (by decide +kernel) (by decide +kernel)⟩
theorem l_P_72 : tk_ML "ChargePlans$Planning" 72 y_S_cents := Or.inr ⟨"ChargePlans", tk_at 434 (by decide +kernel) (by decide +kernel)⟩
theorem l_P_56 : tk_ML "ChargePlans$Planning" 56 y_S_settle := Or.inr ⟨"ChargePlans", tk_at 438 (by decide +kernel) (by decide +kernel)⟩
theorem l_P_62 : tk_ML "ChargePlans$Planning" 62 y_S_addBundle := Or.inr ⟨"ChargePlans", tk_at 442 (by decide +kernel) (by decide +kernel)⟩
theorem l_P_65 : tk_ML "ChargePlans$Planning" 65 y_P_givenUp := Or.inl (tk_at 446 (by decide +kernel) (by decide +kernel))
theorem l_P_69 : tk_ML "ChargePlans$Planning" 69 y_S_tooHeavy := Or.inr ⟨"ChargePlans", tk_at 450 (by decide +kernel) (by decide +kernel)⟩
theorem l_CP_100 : tk_ML "ChargePlans" 100 y_H_keepPlan := Or.inr ⟨"ChargePlans", tk_at 454 (by decide +kernel) (by decide +kernel)⟩
theorem l_L_107 : tk_ML "ChargePlansLaw" 107 y_L_planned := Or.inl (tk_at 458 (by decide +kernel) (by decide +kernel))
theorem l_L_45 : tk_ML "ChargePlansLaw" 45 y_CP_planned := Or.inl (tk_at 461 (by decide +kernel) (by decide +kernel))
theorem l_L_111 : tk_ML "ChargePlansLaw" 111 y_L_amount := Or.inl (tk_at 465 (by decide +kernel) (by decide +kernel))
theorem l_L_49 : tk_ML "ChargePlansLaw" 49 y_CP_amount := Or.inl (tk_at 468 (by decide +kernel) (by decide +kernel))
theorem l_CP_114 : tk_ML "ChargePlans" 114 y_H_hasPlan := Or.inr ⟨"ChargePlans", tk_at 472 (by decide +kernel) (by decide +kernel)⟩
theorem l_L_114 : tk_ML "ChargePlansLaw" 114 y_L_worst := Or.inl (tk_at 476 (by decide +kernel) (by decide +kernel))
theorem l_L_52 : tk_ML "ChargePlansLaw" 52 y_CP_worst := Or.inl (tk_at 479 (by decide +kernel) (by decide +kernel))
theorem l_CP_121 : tk_ML "ChargePlans" 121 y_CP_plannedKilos := Or.inl (tk_at 483 (by decide +kernel) (by decide +kernel))
theorem l_CP_125 : tk_ML "ChargePlans" 125 y_CP_plannedShares := Or.inl (tk_at 487 (by decide +kernel) (by decide +kernel))
theorem l_CP_129 : tk_ML "ChargePlans" 129 y_CP_commonDivisor := Or.inl (tk_at 491 (by decide +kernel) (by decide +kernel))
theorem l_L_118 : tk_ML "ChargePlansLaw" 118 y_L_bound := Or.inl (tk_at 497 (by decide +kernel) (by decide +kernel))
theorem l_L_56 : tk_ML "ChargePlansLaw" 56 y_CP_bound := Or.inl (tk_at 500 (by decide +kernel) (by decide +kernel))
theorem l_CP_138 : tk_ML "ChargePlans" 138 y_G_room := Or.inr ⟨"ChargePlans", tk_at 505 (by decide +kernel) (by decide +kernel)⟩
theorem l_L_121 : tk_ML "ChargePlansLaw" 121 y_L_clash := Or.inl (tk_at 509 (by decide +kernel) (by decide +kernel))
theorem l_L_60 : tk_ML "ChargePlansLaw" 60 y_CP_clash := Or.inl (tk_at 512 (by decide +kernel) (by decide +kernel))
theorem l_CP_153 : tk_ML "ChargePlans" 153 y_C_find := Or.inr ⟨"ChargePlans", tk_at 516 (by decide +kernel) (by decide +kernel)⟩
theorem l_C_22 : tk_ML "ChargePlans$Clashing" 22 y_S_load := Or.inr ⟨"ChargePlans", tk_at 520 (by decide +kernel) (by decide +kernel)⟩
theorem l_C_30 : tk_ML "ChargePlans$Clashing" 30 y_C_walk := Or.inl (tk_at 521 (by decide +kernel) (by decide +kernel))
theorem l_C_42 : tk_ML "ChargePlans$Clashing" 42 y_S_broken := Or.inr ⟨"ChargePlans", tk_at 525 (by decide +kernel) (by decide +kernel)⟩
theorem l_C_46 : tk_ML "ChargePlans$Clashing" 46 y_S_settle := Or.inr ⟨"ChargePlans", tk_at 526 (by decide +kernel) (by decide +kernel)⟩
theorem l_C_53 : tk_ML "ChargePlans$Clashing" 53 y_S_addBundle := Or.inr ⟨"ChargePlans", tk_at 527 (by decide +kernel) (by decide +kernel)⟩
theorem l_C_34 : tk_ML "ChargePlans$Clashing" 34 y_C_someChargeHolds := Or.inl (tk_at 528 (by decide +kernel) (by decide +kernel))
theorem l_L_124 : tk_ML "ChargePlansLaw" 124 y_L_take := Or.inl (tk_at 532 (by decide +kernel) (by decide +kernel))
theorem l_L_63 : tk_ML "ChargePlansLaw" 63 y_CP_take := Or.inl (tk_at 535 (by decide +kernel) (by decide +kernel))
theorem l_CP_157 : tk_ML "ChargePlans" 157 y_CP_enoughLeft := Or.inl (tk_at 539 (by decide +kernel) (by decide +kernel))
theorem l_L_127 : tk_ML "ChargePlansLaw" 127 y_L_stock := Or.inl (tk_at 543 (by decide +kernel) (by decide +kernel))
theorem l_L_66 : tk_ML "ChargePlansLaw" 66 y_CP_stock := Or.inl (tk_at 546 (by decide +kernel) (by decide +kernel))
theorem l_L_72 : tk_ML "ChargePlansLaw" 72 y_M_init := Or.inl (tk_at 552 (by decide +kernel) (by decide +kernel))
theorem l_L_79 : tk_ML "ChargePlansLaw" 79 y_M_thrown := Or.inl (tk_at 621 (by decide +kernel) (by decide +kernel))
theorem l_L_78 : tk_ML "ChargePlansLaw" 78 y_M_good := Or.inl (tk_at 625 (by decide +kernel) (by decide +kernel))
theorem l_M_63 : tk_ML "ChargePlansModel" 63 y_M_in := Or.inl (tk_at 630 (by decide +kernel) (by decide +kernel))
theorem l_M_76 : tk_ML "ChargePlansModel" 76 y_M_throwing := Or.inl (tk_at 635 (by decide +kernel) (by decide +kernel))
theorem l_L_86 : tk_ML "ChargePlansLaw" 86 y_M_element := Or.inl (tk_at 639 (by decide +kernel) (by decide +kernel))
theorem l_M_82 : tk_ML "ChargePlansModel" 82 y_M_isGood := Or.inl (tk_at 643 (by decide +kernel) (by decide +kernel))
theorem l_M_88 : tk_ML "ChargePlansModel" 88 y_M_isSpan := Or.inl (tk_at 648 (by decide +kernel) (by decide +kernel))
theorem l_L_90 : tk_ML "ChargePlansLaw" 90 y_M_limit := Or.inl (tk_at 652 (by decide +kernel) (by decide +kernel))
theorem l_L_94 : tk_ML "ChargePlansLaw" 94 y_M_arrive := Or.inl (tk_at 656 (by decide +kernel) (by decide +kernel))
theorem l_L_129 : tk_ML "ChargePlansLaw" 129 y_M_stock := Or.inl (tk_at 660 (by decide +kernel) (by decide +kernel))
theorem l_L_97 : tk_ML "ChargePlansLaw" 97 y_M_heat := Or.inl (tk_at 664 (by decide +kernel) (by decide +kernel))
theorem l_L_100 : tk_ML "ChargePlansLaw" 100 y_M_span := Or.inl (tk_at 668 (by decide +kernel) (by decide +kernel))
theorem l_M_92 : tk_ML "ChargePlansModel" 92 y_M_isHeat := Or.inl (tk_at 672 (by decide +kernel) (by decide +kernel))
theorem l_L_103 : tk_ML "ChargePlansLaw" 103 y_M_most := Or.inl (tk_at 676 (by decide +kernel) (by decide +kernel))
theorem l_L_106 : tk_ML "ChargePlansLaw" 106 y_M_plan := Or.inl (tk_at 681 (by decide +kernel) (by decide +kernel))
theorem l_M_111 : tk_ML "ChargePlansModel" 111 y_M_top := Or.inl (tk_at 685 (by decide +kernel) (by decide +kernel))
theorem l_M_97 : tk_ML "ChargePlansModel" 97 y_M_sum := Or.inl (tk_at 689 (by decide +kernel) (by decide +kernel))
theorem l_M_115 : tk_ML "ChargePlansModel" 115 y_M_broken := Or.inl (tk_at 693 (by decide +kernel) (by decide +kernel))
theorem l_M_118 : tk_ML "ChargePlansModel" 118 y_M_keep := Or.inl (tk_at 697 (by decide +kernel) (by decide +kernel))
theorem l_L_110 : tk_ML "ChargePlansLaw" 110 y_M_planned := Or.inl (tk_at 701 (by decide +kernel) (by decide +kernel))
theorem l_L_113 : tk_ML "ChargePlansLaw" 113 y_M_amount := Or.inl (tk_at 705 (by decide +kernel) (by decide +kernel))
theorem l_M_122 : tk_ML "ChargePlansModel" 122 y_M_hasPlan := Or.inl (tk_at 709 (by decide +kernel) (by decide +kernel))
theorem l_L_117 : tk_ML "ChargePlansLaw" 117 y_M_worst := Or.inl (tk_at 713 (by decide +kernel) (by decide +kernel))
theorem l_M_125 : tk_ML "ChargePlansModel" 125 y_M_common := Or.inl (tk_at 717 (by decide +kernel) (by decide +kernel))
theorem l_L_120 : tk_ML "ChargePlansLaw" 120 y_M_bound := Or.inl (tk_at 720 (by decide +kernel) (by decide +kernel))
theorem l_L_123 : tk_ML "ChargePlansLaw" 123 y_M_clash := Or.inl (tk_at 724 (by decide +kernel) (by decide +kernel))
theorem l_M_129 : tk_ML "ChargePlansModel" 129 y_M_lookAtAll := Or.inl (tk_at 728 (by decide +kernel) (by decide +kernel))
theorem l_M_132 : tk_ML "ChargePlansModel" 132 y_M_isSome := Or.inl (tk_at 732 (by decide +kernel) (by decide +kernel))
theorem l_L_126 : tk_ML "ChargePlansLaw" 126 y_M_take := Or.inl (tk_at 736 (by decide +kernel) (by decide +kernel))
theorem nw_L_8 : tk_Nw "ChargePlansLaw" 8 0 4 [.null, .null, .null, .null] := ⟨R_CP, F_CP, t_CP, rfl, i_CP, t_CP_ok, tk_at 16 (by decide +kernel) (by decide +kernel), tk_at 17 (by decide +kernel) (by decide +kernel), tk_at 1 (by decide +kernel) (by decide +kernel), fun j hj => by (match j, hj with | 0, _ => rfl | 1, _ => rfl | 2, _ => rfl | 3, _ => rfl | j + 4, h => omega)⟩
theorem nw_CP_7 : tk_Nw "ChargePlans" 7 1 7 [.int 0, .null, .null, .null, .null, .null, .null] := ⟨R_G, F_G, t_G, rfl, i_G, t_G_ok, tk_at 24 (by decide +kernel) (by decide +kernel), tk_at 25 (by decide +kernel) (by decide +kernel), tk_at 2 (by decide +kernel) (by decide +kernel), fun j hj => by (match j, hj with | 0, _ => rfl | 1, _ => rfl | 2, _ => rfl | 3, _ => rfl | 4, _ => rfl | 5, _ => rfl | 6, _ => rfl | j + 7, h => omega)⟩
theorem nw_CP_16 : tk_Nw "ChargePlans" 16 2 8 [.int 0, .null, .null, .null, .null, .null, .null, .null] := ⟨R_H, F_H, t_H, rfl, i_H, t_H_ok, tk_at 65 (by decide +kernel) (by decide +kernel), tk_at 66 (by decide +kernel) (by decide +kernel), tk_at 3 (by decide +kernel) (by decide +kernel), fun j hj => by (match j, hj with | 0, _ => rfl | 1, _ => rfl | 2, _ => rfl | 3, _ => rfl | 4, _ => rfl | 5, _ => rfl | 6, _ => rfl | 7, _ => rfl | j + 8, h => omega)⟩
theorem nw_CP_23 : tk_Nw "ChargePlans" 23 3 8 [.null, .null, .null, .int 0, .int 0, .int 0, .int 0, .int 0] := ⟨R_P, F_P, t_P, rfl, i_P, t_P_ok, tk_at 108 (by decide +kernel) (by decide +kernel), tk_at 109 (by decide +kernel) (by decide +kernel), tk_at 4 (by decide +kernel) (by decide +kernel), fun j hj => by (match j, hj with | 0, _ => rfl | 1, _ => rfl | 2, _ => rfl | 3, _ => rfl | 4, _ => rfl | 5, _ => rfl | 6, _ => rfl | 7, _ => rfl | j + 8, h => omega)⟩
theorem nw_P_9 : tk_Nw "ChargePlans$Planning" 9 4 4 [.int 0, .null, .null, .null] := ⟨R_S, F_S, t_S, rfl, i_S, t_S_ok, tk_at 114 (by decide +kernel) (by decide +kernel), tk_at 115 (by decide +kernel) (by decide +kernel), tk_at 5 (by decide +kernel) (by decide +kernel), fun j hj => by (match j, hj with | 0, _ => rfl | 1, _ => rfl | 2, _ => rfl | 3, _ => rfl | j + 4, h => omega)⟩
theorem nw_CP_30 : tk_Nw "ChargePlans" 30 5 3 [.null, .null, .int 0] := ⟨R_C, F_C, t_C, rfl, i_C, t_C_ok, tk_at 167 (by decide +kernel) (by decide +kernel), tk_at 168 (by decide +kernel) (by decide +kernel), tk_at 6 (by decide +kernel) (by decide +kernel), fun j hj => by (match j, hj with | 0, _ => rfl | 1, _ => rfl | 2, _ => rfl | j + 3, h => omega)⟩
theorem nw_C_9 : tk_Nw "ChargePlans$Clashing" 9 4 4 [.int 0, .null, .null, .null] := ⟨R_S, F_S, t_S, rfl, i_S, t_S_ok, tk_at 173 (by decide +kernel) (by decide +kernel), tk_at 115 (by decide +kernel) (by decide +kernel), tk_at 5 (by decide +kernel) (by decide +kernel), fun j hj => by (match j, hj with | 0, _ => rfl | 1, _ => rfl | 2, _ => rfl | 3, _ => rfl | j + 4, h => omega)⟩
theorem nw_L_70 : tk_Nw "ChargePlansLaw" 70 6 21 [.int 0, .int 0, .null, .null, .null, .null, .null, .null, .int 0, .null, .null, .null, .null, .null, .null, .null, .int 0, .int 0, .int 0, .null, .null] := ⟨R_M, F_M, t_M, rfl, i_M, t_M_ok, tk_at 550 (by decide +kernel) (by decide +kernel), tk_at 551 (by decide +kernel) (by decide +kernel), tk_at 7 (by decide +kernel) (by decide +kernel), fun j hj => by (match j, hj with | 0, _ => rfl | 1, _ => rfl | 2, _ => rfl | 3, _ => rfl | 4, _ => rfl | 5, _ => rfl | 6, _ => rfl | 7, _ => rfl | 8, _ => rfl | 9, _ => rfl | 10, _ => rfl | 11, _ => rfl | 12, _ => rfl | 13, _ => rfl | 14, _ => rfl | 15, _ => rfl | 16, _ => rfl | 17, _ => rfl | 18, _ => rfl | 19, _ => rfl | 20, _ => rfl | j + 21, h => omega)⟩
theorem q_CP_49 : Cond.constant "ChargePlans" 49 (100000) ∈ tk_tbl := tk_at 302 (by decide +kernel) (by decide +kernel)
theorem q_CP_133 : Cond.constantLong "ChargePlans" 133 (-1) ∈ tk_tbl := tk_at 504 (by decide +kernel) (by decide +kernel)
theorem q_M_70 : Cond.constantLong "ChargePlansModel" 70 (1000) ∈ tk_tbl := tk_at 629 (by decide +kernel) (by decide +kernel)
theorem q_M_72 : Cond.constantLong "ChargePlansModel" 72 (100000) ∈ tk_tbl := tk_at 633 (by decide +kernel) (by decide +kernel)
theorem q_M_74 : Cond.constantLong "ChargePlansModel" 74 (6) ∈ tk_tbl := tk_at 634 (by decide +kernel) (by decide +kernel)
theorem q_M_86 : Cond.constantLong "ChargePlansModel" 86 (3) ∈ tk_tbl := tk_at 647 (by decide +kernel) (by decide +kernel)
theorem q_M_80 : Cond.constantLong "ChargePlansModel" 80 (10000) ∈ tk_tbl := tk_at 651 (by decide +kernel) (by decide +kernel)
theorem q_M_95 : Cond.constantLong "ChargePlansModel" 95 (30) ∈ tk_tbl := tk_at 680 (by decide +kernel) (by decide +kernel)
theorem a_int : Cond.arrayClass .int ∈ tk_tbl := tk_at 64 (by decide +kernel) (by decide +kernel)
theorem a_long : Cond.arrayClass .long ∈ tk_tbl := tk_at 185 (by decide +kernel) (by decide +kernel)
theorem a_boolean : Cond.arrayClass .boolean ∈ tk_tbl := tk_at 620 (by decide +kernel) (by decide +kernel)
theorem a_byte : Cond.arrayClass .byte ∈ tk_tbl := tk_at 279 (by decide +kernel) (by decide +kernel)
theorem o_CP : Cond.methodLink "ChargePlans" 1 Lib.objectInit ∈ tk_tbl := tk_at 21 (by decide +kernel) (by decide +kernel)
theorem o_G : Cond.methodLink "ChargePlans$Goods" 3 Lib.objectInit ∈ tk_tbl := tk_at 29 (by decide +kernel) (by decide +kernel)
theorem o_H : Cond.methodLink "ChargePlans$Heats" 3 Lib.objectInit ∈ tk_tbl := tk_at 70 (by decide +kernel) (by decide +kernel)
theorem o_P : Cond.methodLink "ChargePlans$Planning" 3 Lib.objectInit ∈ tk_tbl := tk_at 113 (by decide +kernel) (by decide +kernel)
theorem o_S : Cond.methodLink "ChargePlans$Sums" 3 Lib.objectInit ∈ tk_tbl := tk_at 119 (by decide +kernel) (by decide +kernel)
theorem o_C : Cond.methodLink "ChargePlans$Clashing" 3 Lib.objectInit ∈ tk_tbl := tk_at 172 (by decide +kernel) (by decide +kernel)
theorem o_M : Cond.methodLink "ChargePlansModel" 1 Lib.objectInit ∈ tk_tbl := tk_at 555 (by decide +kernel) (by decide +kernel)
theorem o_1 : Cond.instanceMethod Lib.objectInit ∈ tk_tbl := tk_at 22 (by decide +kernel) (by decide +kernel)
set_option maxRecDepth 20000 in
theorem o_2 : Cond.code Lib.objectInit ⟨#[0xb1]⟩ 1 none ∈ tk_tbl := tk_ac 23 rfl (by decide +kernel)
end
