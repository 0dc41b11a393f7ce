section
-- ===== PART A: goes FIRST, ahead of the names: the tables' words, and 'selects' of the private methods out of them =====
/-- a private method of a class that the tables say can be made, by its rows of tables_1 -/
def lw_okq (q : MethodName × Nat) : Prop := (q.1.cls ≠ "java/lang/invoke/MethodHandle" ∧ q.1.cls ≠ "java/lang/invoke/VarHandle") ∧ Cond.instantiable q.1.cls q.2 ∈ tables_1 ∧ Cond.privateMethod q.1 ∈ tables_1 ∧ Cond.instanceMethod q.1 ∈ tables_1
theorem lw_p0 : lw_okq (⟨"BirthStreet", "isHouse", "(I)Z"⟩, 11) := ⟨⟨by decide +kernel, by decide +kernel⟩, List.mem_of_getElem? (i := 10) (by decide +kernel), List.mem_of_getElem? (i := 118) (by decide +kernel), List.mem_of_getElem? (i := 119) (by decide +kernel)⟩
theorem lw_p1 : lw_okq (⟨"BirthStreet", "numberNow", "(I)I"⟩, 11) := ⟨⟨by decide +kernel, by decide +kernel⟩, List.mem_of_getElem? (i := 10) (by decide +kernel), List.mem_of_getElem? (i := 126) (by decide +kernel), List.mem_of_getElem? (i := 127) (by decide +kernel)⟩
theorem lw_p2 : lw_okq (⟨"BirthStreet", "numberAt", "(LBirthStreet$Row;I)I"⟩, 11) := ⟨⟨by decide +kernel, by decide +kernel⟩, List.mem_of_getElem? (i := 10) (by decide +kernel), List.mem_of_getElem? (i := 130) (by decide +kernel), List.mem_of_getElem? (i := 131) (by decide +kernel)⟩
theorem lw_p3 : lw_okq (⟨"BirthStreet", "owedBy", "(I)I"⟩, 11) := ⟨⟨by decide +kernel, by decide +kernel⟩, List.mem_of_getElem? (i := 10) (by decide +kernel), List.mem_of_getElem? (i := 137) (by decide +kernel), List.mem_of_getElem? (i := 138) (by decide +kernel)⟩
theorem lw_p4 : lw_okq (⟨"BirthStreet", "houseWith", "(II)I"⟩, 11) := ⟨⟨by decide +kernel, by decide +kernel⟩, List.mem_of_getElem? (i := 10) (by decide +kernel), List.mem_of_getElem? (i := 141) (by decide +kernel), List.mem_of_getElem? (i := 142) (by decide +kernel)⟩
theorem lw_p5 : lw_okq (⟨"BirthStreet", "numberOn", "(II)I"⟩, 11) := ⟨⟨by decide +kernel, by decide +kernel⟩, List.mem_of_getElem? (i := 10) (by decide +kernel), List.mem_of_getElem? (i := 145) (by decide +kernel), List.mem_of_getElem? (i := 146) (by decide +kernel)⟩
theorem lw_p6 : lw_okq (⟨"BirthStreet", "turnInWalk", "(LBirthStreet$Row;I)I"⟩, 11) := ⟨⟨by decide +kernel, by decide +kernel⟩, List.mem_of_getElem? (i := 10) (by decide +kernel), List.mem_of_getElem? (i := 152) (by decide +kernel), List.mem_of_getElem? (i := 153) (by decide +kernel)⟩
theorem lw_p7 : lw_okq (⟨"BirthStreet", "bear", "(LBirthStreet$Row;I)V"⟩, 11) := ⟨⟨by decide +kernel, by decide +kernel⟩, List.mem_of_getElem? (i := 10) (by decide +kernel), List.mem_of_getElem? (i := 167) (by decide +kernel), List.mem_of_getElem? (i := 168) (by decide +kernel)⟩
theorem lw_p8 : lw_okq (⟨"BirthStreet", "lendsACradle", "(I)Z"⟩, 11) := ⟨⟨by decide +kernel, by decide +kernel⟩, List.mem_of_getElem? (i := 10) (by decide +kernel), List.mem_of_getElem? (i := 175) (by decide +kernel), List.mem_of_getElem? (i := 176) (by decide +kernel)⟩
theorem lw_p9 : lw_okq (⟨"BirthStreet", "growOlder", "(LBirthStreet$Row;)V"⟩, 11) := ⟨⟨by decide +kernel, by decide +kernel⟩, List.mem_of_getElem? (i := 10) (by decide +kernel), List.mem_of_getElem? (i := 189) (by decide +kernel), List.mem_of_getElem? (i := 190) (by decide +kernel)⟩
theorem lw_p10 : lw_okq (⟨"BirthStreet", "isDay", "(I)Z"⟩, 11) := ⟨⟨by decide +kernel, by decide +kernel⟩, List.mem_of_getElem? (i := 10) (by decide +kernel), List.mem_of_getElem? (i := 200) (by decide +kernel), List.mem_of_getElem? (i := 201) (by decide +kernel)⟩
theorem lw_p11 : lw_okq (⟨"BirthStreet", "lengthOfWalk", "(LBirthStreet$Row;)I"⟩, 11) := ⟨⟨by decide +kernel, by decide +kernel⟩, List.mem_of_getElem? (i := 10) (by decide +kernel), List.mem_of_getElem? (i := 212) (by decide +kernel), List.mem_of_getElem? (i := 213) (by decide +kernel)⟩
theorem lw_p12 : lw_okq (⟨"BirthStreet", "houseOfTurn", "(LBirthStreet$Row;I)I"⟩, 11) := ⟨⟨by decide +kernel, by decide +kernel⟩, List.mem_of_getElem? (i := 10) (by decide +kernel), List.mem_of_getElem? (i := 216) (by decide +kernel), List.mem_of_getElem? (i := 217) (by decide +kernel)⟩
theorem lw_p13 : lw_okq (⟨"BirthStreet", "drawnHouse", "(I)I"⟩, 11) := ⟨⟨by decide +kernel, by decide +kernel⟩, List.mem_of_getElem? (i := 10) (by decide +kernel), List.mem_of_getElem? (i := 249) (by decide +kernel), List.mem_of_getElem? (i := 250) (by decide +kernel)⟩
theorem lw_p14 : lw_okq (⟨"BirthStreet", "bearIfMayBe", "(LBirthStreet$Row;I)V"⟩, 11) := ⟨⟨by decide +kernel, by decide +kernel⟩, List.mem_of_getElem? (i := 10) (by decide +kernel), List.mem_of_getElem? (i := 254) (by decide +kernel), List.mem_of_getElem? (i := 255) (by decide +kernel)⟩
theorem lw_p15 : lw_okq (⟨"BirthStreet", "allNumbers", "(LBirthStreet$Row;)I"⟩, 11) := ⟨⟨by decide +kernel, by decide +kernel⟩, List.mem_of_getElem? (i := 10) (by decide +kernel), List.mem_of_getElem? (i := 258) (by decide +kernel), List.mem_of_getElem? (i := 259) (by decide +kernel)⟩
def lw_privs_1 : List (MethodName × Nat) := [(⟨"BirthStreet", "isHouse", "(I)Z"⟩, 11), (⟨"BirthStreet", "numberNow", "(I)I"⟩, 11), (⟨"BirthStreet", "numberAt", "(LBirthStreet$Row;I)I"⟩, 11), (⟨"BirthStreet", "owedBy", "(I)I"⟩, 11), (⟨"BirthStreet", "houseWith", "(II)I"⟩, 11), (⟨"BirthStreet", "numberOn", "(II)I"⟩, 11), (⟨"BirthStreet", "turnInWalk", "(LBirthStreet$Row;I)I"⟩, 11), (⟨"BirthStreet", "bear", "(LBirthStreet$Row;I)V"⟩, 11), (⟨"BirthStreet", "lendsACradle", "(I)Z"⟩, 11), (⟨"BirthStreet", "growOlder", "(LBirthStreet$Row;)V"⟩, 11), (⟨"BirthStreet", "isDay", "(I)Z"⟩, 11), (⟨"BirthStreet", "lengthOfWalk", "(LBirthStreet$Row;)I"⟩, 11), (⟨"BirthStreet", "houseOfTurn", "(LBirthStreet$Row;I)I"⟩, 11), (⟨"BirthStreet", "drawnHouse", "(I)I"⟩, 11), (⟨"BirthStreet", "bearIfMayBe", "(LBirthStreet$Row;I)V"⟩, 11), (⟨"BirthStreet", "allNumbers", "(LBirthStreet$Row;)I"⟩, 11)]
theorem lw_r1 : ∀ q ∈ lw_privs_1, lw_okq q := List.forall_mem_cons.mpr ⟨lw_p0, List.forall_mem_cons.mpr ⟨lw_p1, List.forall_mem_cons.mpr ⟨lw_p2, List.forall_mem_cons.mpr ⟨lw_p3, List.forall_mem_cons.mpr ⟨lw_p4, List.forall_mem_cons.mpr ⟨lw_p5, List.forall_mem_cons.mpr ⟨lw_p6, List.forall_mem_cons.mpr ⟨lw_p7, List.forall_mem_cons.mpr ⟨lw_p8, List.forall_mem_cons.mpr ⟨lw_p9, List.forall_mem_cons.mpr ⟨lw_p10, List.forall_mem_cons.mpr ⟨lw_p11, List.forall_mem_cons.mpr ⟨lw_p12, List.forall_mem_cons.mpr ⟨lw_p13, List.forall_mem_cons.mpr ⟨lw_p14, List.forall_mem_cons.mpr ⟨lw_p15, fun _ h => absurd h List.not_mem_nil⟩⟩⟩⟩⟩⟩⟩⟩⟩⟩⟩⟩⟩⟩⟩⟩
theorem lw_p16 : lw_okq (⟨"BirthStreet", "unlikeNumbers", "()I"⟩, 11) := ⟨⟨by decide +kernel, by decide +kernel⟩, List.mem_of_getElem? (i := 10) (by decide +kernel), List.mem_of_getElem? (i := 266) (by decide +kernel), List.mem_of_getElem? (i := 267) (by decide +kernel)⟩
theorem lw_p17 : lw_okq (⟨"BirthStreet", "owedByAll", "()I"⟩, 11) := ⟨⟨by decide +kernel, by decide +kernel⟩, List.mem_of_getElem? (i := 10) (by decide +kernel), List.mem_of_getElem? (i := 270) (by decide +kernel), List.mem_of_getElem? (i := 271) (by decide +kernel)⟩
theorem lw_p18 : lw_okq (⟨"BirthStreet", "housesOnPage", "()I"⟩, 11) := ⟨⟨by decide +kernel, by decide +kernel⟩, List.mem_of_getElem? (i := 10) (by decide +kernel), List.mem_of_getElem? (i := 351) (by decide +kernel), List.mem_of_getElem? (i := 352) (by decide +kernel)⟩
def lw_privs_2 : List (MethodName × Nat) := [(⟨"BirthStreet", "unlikeNumbers", "()I"⟩, 11), (⟨"BirthStreet", "owedByAll", "()I"⟩, 11), (⟨"BirthStreet", "housesOnPage", "()I"⟩, 11)]
theorem lw_r2 : ∀ q ∈ lw_privs_2, lw_okq q := List.forall_mem_cons.mpr ⟨lw_p16, List.forall_mem_cons.mpr ⟨lw_p17, List.forall_mem_cons.mpr ⟨lw_p18, fun _ h => absurd h List.not_mem_nil⟩⟩⟩
def lw_privs : List (MethodName × Nat) := lw_privs_1 ++ (lw_privs_2)
def lw_tbl : List Cond := k2_sels lw_privs ++ tables_1
theorem lw_privs_ok : ∀ q ∈ lw_privs, lw_okq q := by
  show ∀ q ∈ lw_privs_1 ++ (lw_privs_2), lw_okq q
  exact List.forall_mem_append.mpr ⟨lw_r1, lw_r2⟩
def RX0 : String := "BirthStreet$Moment"
def TX0 : u_T := fun k => match k with
  | 0 => ("BirthStreet$Moment", "today", "I", false)
  | 1 => ("BirthStreet$Moment", "births", "I", false)
  | 2 => ("BirthStreet$Moment", "debts", "I", false)
  | 3 => ("BirthStreet$Moment", "heard", "I", false)
  | 4 => ("BirthStreet$Moment", "ages", "LBirthStreet$Row;", true)
  | 5 => ("BirthStreet$Moment", "pastAges", "LBirthStreet$Row;", true)
  | 6 => ("BirthStreet$Moment", "birthsIn", "LBirthStreet$Row;", true)
  | 7 => ("BirthStreet$Moment", "debtAmounts", "LBirthStreet$Row;", true)
  | 8 => ("BirthStreet$Moment", "debtNumbers", "LBirthStreet$Row;", true)
  | 9 => ("BirthStreet$Moment", "heardHouses", "LBirthStreet$Row;", true)
  | _ => ("BirthStreet$Moment", "heardNumbers", "LBirthStreet$Row;", true)
def tyX0 : Nat → FieldType := fun k => match k with
  | 0 => .int
  | 1 => .int
  | 2 => .int
  | 3 => .int
  | 4 => .object "BirthStreet$Row"
  | 5 => .object "BirthStreet$Row"
  | 6 => .object "BirthStreet$Row"
  | 7 => .object "BirthStreet$Row"
  | 8 => .object "BirthStreet$Row"
  | 9 => .object "BirthStreet$Row"
  | _ => .object "BirthStreet$Row"
abbrev wsX00 : List Cond := u_ws RX0 TX0 11
theorem nmX0 : ∀ a, a < 11 → ∀ b, b < 11 → a ≠ b → (TX0 a).2.1 ≠ (TX0 b).2.1 := by decide +kernel
theorem tyX0_ok : ∀ k, k < 11 → parseFieldDescriptor (TX0 k).2.2.1 = some (tyX0 k) := by decide +kernel
abbrev cX0_init : ByteArray := prog_2_method_1_code
def yX0_init : MethodName := ⟨RX0, "<init>", "()V"⟩
abbrev cX0_startAnew : ByteArray := prog_2_method_2_code
def yX0_startAnew : MethodName := ⟨RX0, "startAnew", "()V"⟩
def RX1 : String := "BirthStreet$Row"
def TX1 : u_T := fun k => match k with
  | _ => ("BirthStreet$Row", "cells", "[I", true)
def tyX1 : Nat → FieldType := fun k => match k with
  | _ => .array .int
abbrev wsX10 : List Cond := u_ws RX1 TX1 1
theorem nmX1 : ∀ a, a < 1 → ∀ b, b < 1 → a ≠ b → (TX1 a).2.1 ≠ (TX1 b).2.1 := by decide +kernel
theorem tyX1_ok : ∀ k, k < 1 → parseFieldDescriptor (TX1 k).2.2.1 = some (tyX1 k) := by decide +kernel
abbrev cX1_init : ByteArray := prog_3_method_1_code
def yX1_init : MethodName := ⟨RX1, "<init>", "(I)V"⟩
abbrev cX1_at : ByteArray := prog_3_method_2_code
def yX1_at : MethodName := ⟨RX1, "at", "(I)I"⟩
abbrev cX1_put : ByteArray := prog_3_method_3_code
def yX1_put : MethodName := ⟨RX1, "put", "(II)V"⟩
abbrev cX1_add : ByteArray := prog_3_method_4_code
def yX1_add : MethodName := ⟨RX1, "add", "(II)V"⟩
abbrev cX1_clear : ByteArray := prog_3_method_5_code
def yX1_clear : MethodName := ⟨RX1, "clear", "()V"⟩
abbrev cX1_take : ByteArray := prog_3_method_6_code
def yX1_take : MethodName := ⟨RX1, "take", "(LBirthStreet$Row;)V"⟩
def RX2 : String := "BirthStreet"
def TX2 : u_T := fun k => match k with
  | 0 => ("BirthStreet", "page", "LBirthStreet$Row;", true)
  | 1 => ("BirthStreet", "letters", "I", false)
  | 2 => ("BirthStreet", "houses", "I", false)
  | 3 => ("BirthStreet", "streetsRead", "I", false)
  | 4 => ("BirthStreet", "kinds", "LBirthStreet$Row;", true)
  | 5 => ("BirthStreet", "now", "LBirthStreet$Moment;", true)
  | 6 => ("BirthStreet", "kept", "LBirthStreet$Moment;", true)
  | 7 => ("BirthStreet", "isKept", "Z", false)
  | 8 => ("BirthStreet", "wouldBe", "LBirthStreet$Row;", true)
  | 9 => ("BirthStreet", "possible", "LBirthStreet$Row;", true)
  | _ => ("BirthStreet", "tally", "LBirthStreet$Row;", true)
def tyX2 : Nat → FieldType := fun k => match k with
  | 0 => .object "BirthStreet$Row"
  | 1 => .int
  | 2 => .int
  | 3 => .int
  | 4 => .object "BirthStreet$Row"
  | 5 => .object "BirthStreet$Moment"
  | 6 => .object "BirthStreet$Moment"
  | 7 => .boolean
  | 8 => .object "BirthStreet$Row"
  | 9 => .object "BirthStreet$Row"
  | _ => .object "BirthStreet$Row"
abbrev wsX20 : List Cond := u_ws RX2 TX2 11
theorem nmX2 : ∀ a, a < 11 → ∀ b, b < 11 → a ≠ b → (TX2 a).2.1 ≠ (TX2 b).2.1 := by decide +kernel
theorem tyX2_ok : ∀ k, k < 11 → parseFieldDescriptor (TX2 k).2.2.1 = some (tyX2 k) := by decide +kernel
abbrev cX2_init : ByteArray := prog_1_method_1_code
def yX2_init : MethodName := ⟨RX2, "<init>", "()V"⟩
abbrev cX2_letter : ByteArray := prog_1_method_2_code
def yX2_letter : MethodName := ⟨RX2, "letter", "(I)I"⟩
abbrev cX2_fault : ByteArray := prog_1_method_4_code
def yX2_fault : MethodName := ⟨RX2, "fault", "()I"⟩
abbrev cX2_street : ByteArray := prog_1_method_5_code
def yX2_street : MethodName := ⟨RX2, "street", "()I"⟩
abbrev cX2_about : ByteArray := prog_1_method_6_code
def yX2_about : MethodName := ⟨RX2, "about", "(II)I"⟩
abbrev cX2_as : ByteArray := prog_1_method_7_code
def yX2_as : MethodName := ⟨RX2, "as", "(II)I"⟩
abbrev cX2_birth : ByteArray := prog_1_method_8_code
def yX2_birth : MethodName := ⟨RX2, "birth", "(I)I"⟩
abbrev cX2_day : ByteArray := prog_1_method_9_code
def yX2_day : MethodName := ⟨RX2, "day", "()I"⟩
abbrev cX2_then : ByteArray := prog_1_method_10_code
def yX2_then : MethodName := ⟨RX2, "then", "(II)I"⟩
abbrev cX2_goesTo : ByteArray := prog_1_method_11_code
def yX2_goesTo : MethodName := ⟨RX2, "goesTo", "(II)I"⟩
abbrev cX2_walk : ByteArray := prog_1_method_12_code
def yX2_walk : MethodName := ⟨RX2, "walk", "()I"⟩
abbrev cX2_debt : ByteArray := prog_1_method_13_code
def yX2_debt : MethodName := ⟨RX2, "debt", "(II)I"⟩
abbrev cX2_pay : ByteArray := prog_1_method_14_code
def yX2_pay : MethodName := ⟨RX2, "pay", "()I"⟩
abbrev cX2_when : ByteArray := prog_1_method_16_code
def yX2_when : MethodName := ⟨RX2, "when", "(II)I"⟩
abbrev cX2_years : ByteArray := prog_1_method_21_code
def yX2_years : MethodName := ⟨RX2, "years", "(III)I"⟩
abbrev cX2_count : ByteArray := prog_1_method_24_code
def yX2_count : MethodName := ⟨RX2, "count", "(I)I"⟩
abbrev cX2_canStandAt : ByteArray := prog_1_method_28_code
def yX2_canStandAt : MethodName := ⟨RX2, "canStandAt", "(II)Z"⟩
abbrev cX2_kindOfLetter : ByteArray := prog_1_method_29_code
def yX2_kindOfLetter : MethodName := ⟨RX2, "kindOfLetter", "(I)I"⟩
abbrev cX2_housesOnPage : ByteArray := prog_1_method_30_code
def yX2_housesOnPage : MethodName := ⟨RX2, "housesOnPage", "()I"⟩
abbrev cX2_isA : ByteArray := prog_1_method_31_code
def yX2_isA : MethodName := ⟨RX2, "isA", "(II)Z"⟩
abbrev cX2_numberOf : ByteArray := prog_1_method_32_code
def yX2_numberOf : MethodName := ⟨RX2, "numberOf", "(II)I"⟩
abbrev cX2_ageNextDay : ByteArray := prog_1_method_33_code
def yX2_ageNextDay : MethodName := ⟨RX2, "ageNextDay", "(II)I"⟩
abbrev cX2_isHouse : ByteArray := prog_1_method_34_code
def yX2_isHouse : MethodName := ⟨RX2, "isHouse", "(I)Z"⟩
abbrev cX2_lendsACradle : ByteArray := prog_1_method_35_code
def yX2_lendsACradle : MethodName := ⟨RX2, "lendsACradle", "(I)Z"⟩
abbrev cX2_bear : ByteArray := prog_1_method_36_code
def yX2_bear : MethodName := ⟨RX2, "bear", "(LBirthStreet$Row;I)V"⟩
abbrev cX2_bearIfMayBe : ByteArray := prog_1_method_37_code
def yX2_bearIfMayBe : MethodName := ⟨RX2, "bearIfMayBe", "(LBirthStreet$Row;I)V"⟩
abbrev cX2_growOlder : ByteArray := prog_1_method_38_code
def yX2_growOlder : MethodName := ⟨RX2, "growOlder", "(LBirthStreet$Row;)V"⟩
abbrev cX2_numberAt : ByteArray := prog_1_method_39_code
def yX2_numberAt : MethodName := ⟨RX2, "numberAt", "(LBirthStreet$Row;I)I"⟩
abbrev cX2_allNumbers : ByteArray := prog_1_method_40_code
def yX2_allNumbers : MethodName := ⟨RX2, "allNumbers", "(LBirthStreet$Row;)I"⟩
abbrev cX2_turnInWalk : ByteArray := prog_1_method_41_code
def yX2_turnInWalk : MethodName := ⟨RX2, "turnInWalk", "(LBirthStreet$Row;I)I"⟩
abbrev cX2_houseOfTurn : ByteArray := prog_1_method_42_code
def yX2_houseOfTurn : MethodName := ⟨RX2, "houseOfTurn", "(LBirthStreet$Row;I)I"⟩
abbrev cX2_lengthOfWalk : ByteArray := prog_1_method_43_code
def yX2_lengthOfWalk : MethodName := ⟨RX2, "lengthOfWalk", "(LBirthStreet$Row;)I"⟩
abbrev cX2_isDay : ByteArray := prog_1_method_44_code
def yX2_isDay : MethodName := ⟨RX2, "isDay", "(I)Z"⟩
abbrev cX2_cellOf : ByteArray := prog_1_method_45_code
def yX2_cellOf : MethodName := ⟨RX2, "cellOf", "(II)I"⟩
abbrev cX2_numberNow : ByteArray := prog_1_method_46_code
def yX2_numberNow : MethodName := ⟨RX2, "numberNow", "(I)I"⟩
abbrev cX2_numberOn : ByteArray := prog_1_method_47_code
def yX2_numberOn : MethodName := ⟨RX2, "numberOn", "(II)I"⟩
abbrev cX2_houseWith : ByteArray := prog_1_method_48_code
def yX2_houseWith : MethodName := ⟨RX2, "houseWith", "(II)I"⟩
abbrev cX2_unlikeNumbers : ByteArray := prog_1_method_49_code
def yX2_unlikeNumbers : MethodName := ⟨RX2, "unlikeNumbers", "()I"⟩
abbrev cX2_owedBy : ByteArray := prog_1_method_50_code
def yX2_owedBy : MethodName := ⟨RX2, "owedBy", "(I)I"⟩
abbrev cX2_owedByAll : ByteArray := prog_1_method_51_code
def yX2_owedByAll : MethodName := ⟨RX2, "owedByAll", "()I"⟩
abbrev cX2_nextSeed : ByteArray := prog_1_method_59_code
def yX2_nextSeed : MethodName := ⟨RX2, "nextSeed", "(I)I"⟩
abbrev cX2_drawnHouse : ByteArray := prog_1_method_60_code
def yX2_drawnHouse : MethodName := ⟨RX2, "drawnHouse", "(I)I"⟩
def RX3 : String := "BirthStreetModel"
def TX3 : u_T := fun k => match k with
  | _ => ("", "", "", false)
def tyX3 : Nat → FieldType := fun k => match k with
  | _ => .int
abbrev wsX30 : List Cond := u_ws RX3 TX3 0
theorem nmX3 : ∀ a, a < 0 → ∀ b, b < 0 → a ≠ b → (TX3 a).2.1 ≠ (TX3 b).2.1 := by decide +kernel
theorem tyX3_ok : ∀ k, k < 0 → parseFieldDescriptor (TX3 k).2.2.1 = some (tyX3 k) := by decide +kernel
def RJ9 : String := "java/lang/Math"
def TJ9 : u_T := fun k => match k with
  | _ => ("", "", "", false)
def tyJ9 : Nat → FieldType := fun k => match k with
  | _ => .int
abbrev wsJ90 : List Cond := u_ws RJ9 TJ9 0
theorem nmJ9 : ∀ a, a < 0 → ∀ b, b < 0 → a ≠ b → (TJ9 a).2.1 ≠ (TJ9 b).2.1 := by decide +kernel
theorem tyJ9_ok : ∀ k, k < 0 → parseFieldDescriptor (TJ9 k).2.2.1 = some (tyJ9 k) := by decide +kernel
abbrev cJ9_abs_0f7a4 : ByteArray := prog_6_method_59_code
def yJ9_abs_0f7a4 : MethodName := ⟨RJ9, "abs", "(I)I"⟩
def RJ0 : String := "java/lang/String"
def TJ0 : u_T := fun k => match k with
  | _ => ("", "", "", false)
def tyJ0 : Nat → FieldType := fun k => match k with
  | _ => .int
abbrev wsJ00 : List Cond := u_ws RJ0 TJ0 0
theorem nmJ0 : ∀ a, a < 0 → ∀ b, b < 0 → a ≠ b → (TJ0 a).2.1 ≠ (TJ0 b).2.1 := by decide +kernel
theorem tyJ0_ok : ∀ k, k < 0 → parseFieldDescriptor (TJ0 k).2.2.1 = some (tyJ0 k) := by decide +kernel
abbrev cJ0_length_8abf5 : ByteArray := prog_7_method_54_code
def yJ0_length_8abf5 : MethodName := ⟨RJ0, "length", "()I"⟩
abbrev cJ0_charAt_5068e : ByteArray := prog_7_method_56_code
def yJ0_charAt_5068e : MethodName := ⟨RJ0, "charAt", "(I)C"⟩
abbrev cJ0_coder_7d493 : ByteArray := prog_7_method_152_code
def yJ0_coder_7d493 : MethodName := ⟨RJ0, "coder", "()B"⟩
abbrev cJ0_isLatin1_aae02 : ByteArray := prog_7_method_154_code
def yJ0_isLatin1_aae02 : MethodName := ⟨RJ0, "isLatin1", "()Z"⟩
abbrev cJ0_checkIndex_df160 : ByteArray := prog_7_method_155_code
def yJ0_checkIndex_df160 : MethodName := ⟨RJ0, "checkIndex", "(II)V"⟩
def RJ1 : String := "java/lang/StringLatin1"
def TJ1 : u_T := fun k => match k with
  | _ => ("", "", "", false)
def tyJ1 : Nat → FieldType := fun k => match k with
  | _ => .int
abbrev wsJ10 : List Cond := u_ws RJ1 TJ1 0
theorem nmJ1 : ∀ a, a < 0 → ∀ b, b < 0 → a ≠ b → (TJ1 a).2.1 ≠ (TJ1 b).2.1 := by decide +kernel
theorem tyJ1_ok : ∀ k, k < 0 → parseFieldDescriptor (TJ1 k).2.2.1 = some (tyJ1 k) := by decide +kernel
abbrev cJ1_charAt_3b067 : ByteArray := prog_8_method_2_code
def yJ1_charAt_3b067 : MethodName := ⟨RJ1, "charAt", "([BI)C"⟩
def RJ2 : String := "java/lang/StringUTF16"
def TJ2 : u_T := fun k => match k with
  | _ => ("", "", "", false)
def tyJ2 : Nat → FieldType := fun k => match k with
  | _ => .int
abbrev wsJ20 : List Cond := u_ws RJ2 TJ2 0
theorem nmJ2 : ∀ a, a < 0 → ∀ b, b < 0 → a ≠ b → (TJ2 a).2.1 ≠ (TJ2 b).2.1 := by decide +kernel
theorem tyJ2_ok : ∀ k, k < 0 → parseFieldDescriptor (TJ2 k).2.2.1 = some (tyJ2 k) := by decide +kernel
abbrev cJ2_getChar_3b067 : ByteArray := prog_9_method_5_code
def yJ2_getChar_3b067 : MethodName := ⟨RJ2, "getChar", "([BI)C"⟩
abbrev cJ2_length_9d52b : ByteArray := prog_9_method_6_code
def yJ2_length_9d52b : MethodName := ⟨RJ2, "length", "([B)I"⟩
abbrev cJ2_charAt_3b067 : ByteArray := prog_9_method_83_code
def yJ2_charAt_3b067 : MethodName := ⟨RJ2, "charAt", "([BI)C"⟩
abbrev cJ2_checkIndex_2214a : ByteArray := prog_9_method_91_code
def yJ2_checkIndex_2214a : MethodName := ⟨RJ2, "checkIndex", "(I[B)V"⟩
def RJ3 : String := "jdk/internal/util/Preconditions"
def TJ3 : u_T := fun k => match k with
  | _ => ("", "", "", false)
def tyJ3 : Nat → FieldType := fun k => match k with
  | _ => .int
abbrev wsJ30 : List Cond := u_ws RJ3 TJ3 0
theorem nmJ3 : ∀ a, a < 0 → ∀ b, b < 0 → a ≠ b → (TJ3 a).2.1 ≠ (TJ3 b).2.1 := by decide +kernel
theorem tyJ3_ok : ∀ k, k < 0 → parseFieldDescriptor (TJ3 k).2.2.1 = some (tyJ3 k) := by decide +kernel
abbrev cJ3_checkIndex_8e157 : ByteArray := prog_10_method_11_code
def yJ3_checkIndex_8e157 : MethodName := ⟨RJ3, "checkIndex", "(IILjava/util/function/BiFunction;)I"⟩
def RL : String := "BirthStreetLaw"
abbrev cL_cell : ByteArray := method_2_code
def yL_cell : MethodName := ⟨RL, "cell", "([II)I"⟩
abbrev cL_put : ByteArray := method_3_code
def yL_put : MethodName := ⟨RL, "put", "(LBirthStreet;I)Z"⟩
abbrev cL_street : ByteArray := method_4_code
def yL_street : MethodName := ⟨RL, "street", "(LBirthStreet;II[I)Z"⟩
abbrev cL_number : ByteArray := method_5_code
def yL_number : MethodName := ⟨RL, "number", "(II)I"⟩
abbrev cL_now : ByteArray := method_6_code
def yL_now : MethodName := ⟨RL, "now", "([II)I"⟩
abbrev cL_then : ByteArray := method_7_code
def yL_then : MethodName := ⟨RL, "then", "([I[JII)I"⟩
abbrev cL_pass : ByteArray := method_8_code
def yL_pass : MethodName := ⟨RL, "pass", "([I)V"⟩
abbrev cL_bears : ByteArray := method_9_code
def yL_bears : MethodName := ⟨RL, "bears", "([II)Z"⟩
abbrev cL_bear : ByteArray := method_10_code
def yL_bear : MethodName := ⟨RL, "bear", "([II)I"⟩
abbrev cL_order : ByteArray := method_11_code
def yL_order : MethodName := ⟨RL, "order", "([II)I"⟩
abbrev cL_walk : ByteArray := method_12_code
def yL_walk : MethodName := ⟨RL, "walk", "([I)I"⟩
abbrev cL_numbers : ByteArray := method_13_code
def yL_numbers : MethodName := ⟨RL, "numbers", "([I)I"⟩
abbrev cL_copy : ByteArray := method_15_code
def yL_copy : MethodName := ⟨RL, "copy", "([I[I)V"⟩
abbrev cL_act : ByteArray := method_16_code
def yL_act : MethodName := ⟨RL, "act", "(LBirthStreet;I[I[J)Z"⟩
abbrev cL_law : ByteArray := code
def yL_law : MethodName := ⟨RL, "law", "([I)Z"⟩
theorem inX3 : ∀ w ∈ wsX30, w ∈ lw_tbl := by decide +kernel
theorem inJ9 : ∀ w ∈ wsJ90, w ∈ lw_tbl := by decide +kernel
theorem inJ0 : ∀ w ∈ wsJ00, w ∈ lw_tbl := by decide +kernel
theorem inJ1 : ∀ w ∈ wsJ10, w ∈ lw_tbl := by decide +kernel
theorem inJ2 : ∀ w ∈ wsJ20, w ∈ lw_tbl := by decide +kernel
theorem inJ3 : ∀ w ∈ wsJ30, w ∈ lw_tbl := by decide +kernel
abbrev vwCl : List vw_C := [(RX0, TX0, 11), (RX1, TX1, 1), (RX2, TX2, 11)]
end
section
/-- every word of the tables that any state keeps, and the selects of the private methods -/
def gG : List Cond := lw_tbl.filter goodWord
theorem gG_in : ∀ w ∈ gG, w ∈ lw_tbl := fun w h => (List.mem_filter.mp h).1
theorem gG_ok : ∀ w ∈ gG, goodWord w = true := fun w h => (List.mem_filter.mp h).2
theorem gm_t {w : Cond} (h : w ∈ tables_1) (hg : goodWord w = true) : w ∈ gG := List.mem_filter.mpr ⟨List.mem_append_right _ h, hg⟩
theorem gm_s {w : Cond} (h : w ∈ k2_sels lw_privs) (hg : goodWord w = true) : w ∈ gG := List.mem_filter.mpr ⟨List.mem_append_left _ h, hg⟩
theorem gm_1 : (.initialized RL : Cond) ∈ gG := gm_t (List.mem_append_left _ (List.mem_of_getElem? (i := 0) (rfl : tables_1_1[0]? = some _))) rfl
theorem gm_2 : (.initialized RX2 : Cond) ∈ gG := gm_t (List.mem_append_left _ (List.mem_of_getElem? (i := 1) (rfl : tables_1_1[1]? = some _))) rfl
theorem gm_3 : (.initialized RX1 : Cond) ∈ gG := gm_t (List.mem_append_left _ (List.mem_of_getElem? (i := 2) (rfl : tables_1_1[2]? = some _))) rfl
theorem gm_4 : (.initialized RX0 : Cond) ∈ gG := gm_t (List.mem_append_left _ (List.mem_of_getElem? (i := 3) (rfl : tables_1_1[3]? = some _))) rfl
theorem gm_5 : (.initialized RJ0 : Cond) ∈ gG := gm_t (List.mem_append_left _ (List.mem_of_getElem? (i := 4) (rfl : tables_1_1[4]? = some _))) rfl
theorem gm_6 : (.initialized RJ1 : Cond) ∈ gG := gm_t (List.mem_append_left _ (List.mem_of_getElem? (i := 5) (rfl : tables_1_1[5]? = some _))) rfl
theorem gm_7 : (.initialized RJ3 : Cond) ∈ gG := gm_t (List.mem_append_left _ (List.mem_of_getElem? (i := 6) (rfl : tables_1_1[6]? = some _))) rfl
theorem gm_8 : (.initialized RJ2 : Cond) ∈ gG := gm_t (List.mem_append_left _ (List.mem_of_getElem? (i := 7) (rfl : tables_1_1[7]? = some _))) rfl
theorem gm_9 : (.initialized RJ9 : Cond) ∈ gG := gm_t (List.mem_append_left _ (List.mem_of_getElem? (i := 8) (rfl : tables_1_1[8]? = some _))) rfl
theorem gm_10 : (.classLink RL 9 RX2 : Cond) ∈ gG := gm_t (List.mem_append_left _ (List.mem_of_getElem? (i := 9) (rfl : tables_1_1[9]? = some _))) rfl
theorem gm_11 : (.instantiable RX2 11 : Cond) ∈ gG := gm_t (List.mem_append_left _ (List.mem_of_getElem? (i := 10) (rfl : tables_1_1[10]? = some _))) rfl
theorem gm_12 : (.methodLink RL 54 yX2_init : Cond) ∈ gG := gm_t (List.mem_append_left _ (List.mem_of_getElem? (i := 11) (rfl : tables_1_1[11]? = some _))) rfl
theorem gm_13 : (.instanceMethod yX2_init : Cond) ∈ gG := gm_t (List.mem_append_left _ (List.mem_of_getElem? (i := 12) (rfl : tables_1_1[12]? = some _))) rfl
theorem gm_14 : (.code yX2_init cX2_init 1 none : Cond) ∈ gG := gm_t (List.mem_append_left _ (List.mem_of_getElem? (i := 13) (rfl : tables_1_1[13]? = some _))) rfl
theorem gm_15 : (.methodLink RX2 3 objectInit : Cond) ∈ gG := gm_t (List.mem_append_left _ (List.mem_of_getElem? (i := 14) (rfl : tables_1_1[14]? = some _))) rfl
theorem gm_16 : (.instanceMethod objectInit : Cond) ∈ gG := gm_t (List.mem_append_left _ (List.mem_of_getElem? (i := 15) (rfl : tables_1_1[15]? = some _))) rfl
theorem gm_17 : (.code objectInit ⟨#[0xb1]⟩ 1 none : Cond) ∈ gG := gm_t (List.mem_append_left _ (List.mem_of_getElem? (i := 16) (rfl : tables_1_1[16]? = some _))) rfl
theorem gm_18 : (.classLink RX2 9 RX1 : Cond) ∈ gG := gm_t (List.mem_append_left _ (List.mem_of_getElem? (i := 17) (rfl : tables_1_1[17]? = some _))) rfl
theorem gm_19 : (.instantiable RX1 1 : Cond) ∈ gG := gm_t (List.mem_append_left _ (List.mem_of_getElem? (i := 18) (rfl : tables_1_1[18]? = some _))) rfl
theorem gm_20 : (.methodLink RX2 11 yX1_init : Cond) ∈ gG := gm_t (List.mem_append_left _ (List.mem_of_getElem? (i := 19) (rfl : tables_1_1[19]? = some _))) rfl
theorem gm_21 : (.instanceMethod yX1_init : Cond) ∈ gG := gm_t (List.mem_append_left _ (List.mem_of_getElem? (i := 20) (rfl : tables_1_1[20]? = some _))) rfl
theorem gm_22 : (.code yX1_init cX1_init 2 none : Cond) ∈ gG := gm_t (List.mem_append_left _ (List.mem_of_getElem? (i := 21) (rfl : tables_1_1[21]? = some _))) rfl
theorem gm_23 : (.methodLink RX1 1 objectInit : Cond) ∈ gG := gm_t (List.mem_append_left _ (List.mem_of_getElem? (i := 22) (rfl : tables_1_1[22]? = some _))) rfl
theorem gm_24 : (.fieldLink RX1 7 "BirthStreet$Row" "cells" "[I" : Cond) ∈ gG := gm_t (List.mem_append_left _ (List.mem_of_getElem? (i := 23) (rfl : tables_1_1[23]? = some _))) rfl
theorem gm_25 : (.laysFinal RX1 "BirthStreet$Row" "cells" "[I" : Cond) ∈ gG := gm_t (List.mem_append_left _ (List.mem_of_getElem? (i := 24) (rfl : tables_1_1[24]? = some _))) rfl
theorem gm_26 : (.arrayClass .int : Cond) ∈ gG := gm_t (List.mem_append_left _ (List.mem_of_getElem? (i := 27) (rfl : tables_1_1[27]? = some _))) rfl
theorem gm_27 : (.classLink RX2 31 RX0 : Cond) ∈ gG := gm_t (List.mem_append_left _ (List.mem_of_getElem? (i := 28) (rfl : tables_1_1[28]? = some _))) rfl
theorem gm_28 : (.instantiable RX0 11 : Cond) ∈ gG := gm_t (List.mem_append_left _ (List.mem_of_getElem? (i := 29) (rfl : tables_1_1[29]? = some _))) rfl
theorem gn_29 : (.methodLinkNest RX2 33 yX0_init RX2 : Cond) ∈ lw_tbl := List.mem_append_right _ (List.mem_append_left _ (List.mem_of_getElem? (i := 30) (rfl : tables_1_1[30]? = some _)))
theorem gm_30 : (.instanceMethod yX0_init : Cond) ∈ gG := gm_t (List.mem_append_left _ (List.mem_of_getElem? (i := 31) (rfl : tables_1_1[31]? = some _))) rfl
theorem gm_31 : (.code yX0_init cX0_init 1 none : Cond) ∈ gG := gm_t (List.mem_append_left _ (List.mem_of_getElem? (i := 32) (rfl : tables_1_1[32]? = some _))) rfl
theorem gm_32 : (.methodLink RX0 3 objectInit : Cond) ∈ gG := gm_t (List.mem_append_left _ (List.mem_of_getElem? (i := 33) (rfl : tables_1_1[33]? = some _))) rfl
theorem gm_33 : (.classLink RX0 24 RX1 : Cond) ∈ gG := gm_t (List.mem_append_left _ (List.mem_of_getElem? (i := 34) (rfl : tables_1_1[34]? = some _))) rfl
theorem gm_34 : (.methodLink RX0 26 yX1_init : Cond) ∈ gG := gm_t (List.mem_append_left _ (List.mem_of_getElem? (i := 35) (rfl : tables_1_1[35]? = some _))) rfl
theorem gm_35 : (.fieldLink RX0 9 "BirthStreet$Moment" "today" "I" : Cond) ∈ gG := gm_t (List.mem_append_left _ (List.mem_of_getElem? (i := 36) (rfl : tables_1_1[36]? = some _))) rfl
theorem gn_36 : (.fieldLinkNest RX2 112 "BirthStreet$Moment" "today" "I" RX2 : Cond) ∈ lw_tbl := List.mem_append_right _ (List.mem_append_left _ (List.mem_of_getElem? (i := 37) (rfl : tables_1_1[37]? = some _)))
theorem gm_37 : (.fieldLink RX0 15 "BirthStreet$Moment" "births" "I" : Cond) ∈ gG := gm_t (List.mem_append_left _ (List.mem_of_getElem? (i := 38) (rfl : tables_1_1[38]? = some _))) rfl
theorem gn_38 : (.fieldLinkNest RX2 103 "BirthStreet$Moment" "births" "I" RX2 : Cond) ∈ lw_tbl := List.mem_append_right _ (List.mem_append_left _ (List.mem_of_getElem? (i := 39) (rfl : tables_1_1[39]? = some _)))
theorem gm_39 : (.fieldLink RX0 18 "BirthStreet$Moment" "debts" "I" : Cond) ∈ gG := gm_t (List.mem_append_left _ (List.mem_of_getElem? (i := 40) (rfl : tables_1_1[40]? = some _))) rfl
theorem gn_40 : (.fieldLinkNest RX2 139 "BirthStreet$Moment" "debts" "I" RX2 : Cond) ∈ lw_tbl := List.mem_append_right _ (List.mem_append_left _ (List.mem_of_getElem? (i := 41) (rfl : tables_1_1[41]? = some _)))
theorem gm_41 : (.fieldLink RX0 21 "BirthStreet$Moment" "heard" "I" : Cond) ∈ gG := gm_t (List.mem_append_left _ (List.mem_of_getElem? (i := 42) (rfl : tables_1_1[42]? = some _))) rfl
theorem gn_42 : (.fieldLinkNest RX2 162 "BirthStreet$Moment" "heard" "I" RX2 : Cond) ∈ lw_tbl := List.mem_append_right _ (List.mem_append_left _ (List.mem_of_getElem? (i := 43) (rfl : tables_1_1[43]? = some _)))
theorem gm_43 : (.fieldLink RX0 29 "BirthStreet$Moment" "ages" "LBirthStreet$Row;" : Cond) ∈ gG := gm_t (List.mem_append_left _ (List.mem_of_getElem? (i := 44) (rfl : tables_1_1[44]? = some _))) rfl
theorem gn_44 : (.fieldLinkNest RX2 76 "BirthStreet$Moment" "ages" "LBirthStreet$Row;" RX2 : Cond) ∈ lw_tbl := List.mem_append_right _ (List.mem_append_left _ (List.mem_of_getElem? (i := 45) (rfl : tables_1_1[45]? = some _)))
theorem gm_45 : (.fieldLink RX0 33 "BirthStreet$Moment" "pastAges" "LBirthStreet$Row;" : Cond) ∈ gG := gm_t (List.mem_append_left _ (List.mem_of_getElem? (i := 46) (rfl : tables_1_1[46]? = some _))) rfl
theorem gn_46 : (.fieldLinkNest RX2 115 "BirthStreet$Moment" "pastAges" "LBirthStreet$Row;" RX2 : Cond) ∈ lw_tbl := List.mem_append_right _ (List.mem_append_left _ (List.mem_of_getElem? (i := 47) (rfl : tables_1_1[47]? = some _)))
theorem gm_47 : (.fieldLink RX0 36 "BirthStreet$Moment" "birthsIn" "LBirthStreet$Row;" : Cond) ∈ gG := gm_t (List.mem_append_left _ (List.mem_of_getElem? (i := 48) (rfl : tables_1_1[48]? = some _))) rfl
theorem gn_48 : (.fieldLinkNest RX2 86 "BirthStreet$Moment" "birthsIn" "LBirthStreet$Row;" RX2 : Cond) ∈ lw_tbl := List.mem_append_right _ (List.mem_append_left _ (List.mem_of_getElem? (i := 49) (rfl : tables_1_1[49]? = some _)))
theorem gm_49 : (.fieldLink RX0 39 "BirthStreet$Moment" "debtAmounts" "LBirthStreet$Row;" : Cond) ∈ gG := gm_t (List.mem_append_left _ (List.mem_of_getElem? (i := 50) (rfl : tables_1_1[50]? = some _))) rfl
theorem gn_50 : (.fieldLinkNest RX2 142 "BirthStreet$Moment" "debtAmounts" "LBirthStreet$Row;" RX2 : Cond) ∈ lw_tbl := List.mem_append_right _ (List.mem_append_left _ (List.mem_of_getElem? (i := 51) (rfl : tables_1_1[51]? = some _)))
theorem gm_51 : (.fieldLink RX0 42 "BirthStreet$Moment" "debtNumbers" "LBirthStreet$Row;" : Cond) ∈ gG := gm_t (List.mem_append_left _ (List.mem_of_getElem? (i := 52) (rfl : tables_1_1[52]? = some _))) rfl
theorem gn_52 : (.fieldLinkNest RX2 145 "BirthStreet$Moment" "debtNumbers" "LBirthStreet$Row;" RX2 : Cond) ∈ lw_tbl := List.mem_append_right _ (List.mem_append_left _ (List.mem_of_getElem? (i := 53) (rfl : tables_1_1[53]? = some _)))
theorem gm_53 : (.fieldLink RX0 45 "BirthStreet$Moment" "heardHouses" "LBirthStreet$Row;" : Cond) ∈ gG := gm_t (List.mem_append_left _ (List.mem_of_getElem? (i := 54) (rfl : tables_1_1[54]? = some _))) rfl
theorem gm_54 : (.fieldLink RX0 48 "BirthStreet$Moment" "heardNumbers" "LBirthStreet$Row;" : Cond) ∈ gG := gm_t (List.mem_append_left _ (List.mem_of_getElem? (i := 55) (rfl : tables_1_1[55]? = some _))) rfl
theorem gm_55 : (.lays RX0 "BirthStreet$Moment" "today" "I" : Cond) ∈ gG := gm_t (List.mem_append_left _ (List.mem_of_getElem? (i := 56) (rfl : tables_1_1[56]? = some _))) rfl
theorem gm_56 : (.lays RX0 "BirthStreet$Moment" "births" "I" : Cond) ∈ gG := gm_t (List.mem_append_left _ (List.mem_of_getElem? (i := 58) (rfl : tables_1_1[58]? = some _))) rfl
theorem gm_57 : (.lays RX0 "BirthStreet$Moment" "debts" "I" : Cond) ∈ gG := gm_t (List.mem_append_left _ (List.mem_of_getElem? (i := 60) (rfl : tables_1_1[60]? = some _))) rfl
theorem gm_58 : (.lays RX0 "BirthStreet$Moment" "heard" "I" : Cond) ∈ gG := gm_t (List.mem_append_left _ (List.mem_of_getElem? (i := 62) (rfl : tables_1_1[62]? = some _))) rfl
theorem gm_59 : (.laysFinal RX0 "BirthStreet$Moment" "ages" "LBirthStreet$Row;" : Cond) ∈ gG := gm_t (List.mem_append_left _ (List.mem_of_getElem? (i := 64) (rfl : tables_1_1[64]? = some _))) rfl
theorem gm_60 : (.laysFinal RX0 "BirthStreet$Moment" "pastAges" "LBirthStreet$Row;" : Cond) ∈ gG := gm_t (List.mem_append_left _ (List.mem_of_getElem? (i := 66) (rfl : tables_1_1[66]? = some _))) rfl
theorem gm_61 : (.laysFinal RX0 "BirthStreet$Moment" "birthsIn" "LBirthStreet$Row;" : Cond) ∈ gG := gm_t (List.mem_append_left _ (List.mem_of_getElem? (i := 68) (rfl : tables_1_1[68]? = some _))) rfl
theorem gm_62 : (.laysFinal RX0 "BirthStreet$Moment" "debtAmounts" "LBirthStreet$Row;" : Cond) ∈ gG := gm_t (List.mem_append_left _ (List.mem_of_getElem? (i := 70) (rfl : tables_1_1[70]? = some _))) rfl
theorem gm_63 : (.laysFinal RX0 "BirthStreet$Moment" "debtNumbers" "LBirthStreet$Row;" : Cond) ∈ gG := gm_t (List.mem_append_left _ (List.mem_of_getElem? (i := 72) (rfl : tables_1_1[72]? = some _))) rfl
theorem gm_64 : (.laysFinal RX0 "BirthStreet$Moment" "heardHouses" "LBirthStreet$Row;" : Cond) ∈ gG := gm_t (List.mem_append_left _ (List.mem_of_getElem? (i := 74) (rfl : tables_1_1[74]? = some _))) rfl
theorem gm_65 : (.laysFinal RX0 "BirthStreet$Moment" "heardNumbers" "LBirthStreet$Row;" : Cond) ∈ gG := gm_t (List.mem_append_left _ (List.mem_of_getElem? (i := 76) (rfl : tables_1_1[76]? = some _))) rfl
theorem gm_66 : (.fieldLink RX2 14 "BirthStreet" "page" "LBirthStreet$Row;" : Cond) ∈ gG := gm_t (List.mem_append_left _ (List.mem_of_getElem? (i := 79) (rfl : tables_1_1[79]? = some _))) rfl
theorem gm_67 : (.fieldLink RX2 18 "BirthStreet" "letters" "I" : Cond) ∈ gG := gm_t (List.mem_append_left _ (List.mem_of_getElem? (i := 80) (rfl : tables_1_1[80]? = some _))) rfl
theorem gm_68 : (.fieldLink RX2 22 "BirthStreet" "houses" "I" : Cond) ∈ gG := gm_t (List.mem_append_left _ (List.mem_of_getElem? (i := 81) (rfl : tables_1_1[81]? = some _))) rfl
theorem gm_69 : (.fieldLink RX2 25 "BirthStreet" "streetsRead" "I" : Cond) ∈ gG := gm_t (List.mem_append_left _ (List.mem_of_getElem? (i := 82) (rfl : tables_1_1[82]? = some _))) rfl
theorem gm_70 : (.fieldLink RX2 28 "BirthStreet" "kinds" "LBirthStreet$Row;" : Cond) ∈ gG := gm_t (List.mem_append_left _ (List.mem_of_getElem? (i := 83) (rfl : tables_1_1[83]? = some _))) rfl
theorem gm_71 : (.fieldLink RX2 34 "BirthStreet" "now" "LBirthStreet$Moment;" : Cond) ∈ gG := gm_t (List.mem_append_left _ (List.mem_of_getElem? (i := 84) (rfl : tables_1_1[84]? = some _))) rfl
theorem gm_72 : (.fieldLink RX2 38 "BirthStreet" "kept" "LBirthStreet$Moment;" : Cond) ∈ gG := gm_t (List.mem_append_left _ (List.mem_of_getElem? (i := 85) (rfl : tables_1_1[85]? = some _))) rfl
theorem gm_73 : (.fieldLink RX2 41 "BirthStreet" "isKept" "Z" : Cond) ∈ gG := gm_t (List.mem_append_left _ (List.mem_of_getElem? (i := 86) (rfl : tables_1_1[86]? = some _))) rfl
theorem gm_74 : (.fieldLink RX2 45 "BirthStreet" "wouldBe" "LBirthStreet$Row;" : Cond) ∈ gG := gm_t (List.mem_append_left _ (List.mem_of_getElem? (i := 87) (rfl : tables_1_1[87]? = some _))) rfl
theorem gm_75 : (.fieldLink RX2 48 "BirthStreet" "possible" "LBirthStreet$Row;" : Cond) ∈ gG := gm_t (List.mem_append_left _ (List.mem_of_getElem? (i := 88) (rfl : tables_1_1[88]? = some _))) rfl
theorem gm_76 : (.fieldLink RX2 51 "BirthStreet" "tally" "LBirthStreet$Row;" : Cond) ∈ gG := gm_t (List.mem_append_left _ (List.mem_of_getElem? (i := 89) (rfl : tables_1_1[89]? = some _))) rfl
theorem gm_77 : (.laysFinal RX2 "BirthStreet" "page" "LBirthStreet$Row;" : Cond) ∈ gG := gm_t (List.mem_append_left _ (List.mem_of_getElem? (i := 90) (rfl : tables_1_1[90]? = some _))) rfl
theorem gm_78 : (.lays RX2 "BirthStreet" "letters" "I" : Cond) ∈ gG := gm_t (List.mem_append_left _ (List.mem_of_getElem? (i := 92) (rfl : tables_1_1[92]? = some _))) rfl
theorem gm_79 : (.lays RX2 "BirthStreet" "houses" "I" : Cond) ∈ gG := gm_t (List.mem_append_left _ (List.mem_of_getElem? (i := 94) (rfl : tables_1_1[94]? = some _))) rfl
theorem gm_80 : (.lays RX2 "BirthStreet" "streetsRead" "I" : Cond) ∈ gG := gm_t (List.mem_append_left _ (List.mem_of_getElem? (i := 96) (rfl : tables_1_1[96]? = some _))) rfl
theorem gm_81 : (.laysFinal RX2 "BirthStreet" "kinds" "LBirthStreet$Row;" : Cond) ∈ gG := gm_t (List.mem_append_left _ (List.mem_of_getElem? (i := 98) (rfl : tables_1_1[98]? = some _))) rfl
theorem gm_82 : (.laysFinal RX2 "BirthStreet" "now" "LBirthStreet$Moment;" : Cond) ∈ gG := gm_t (List.mem_append_left _ (List.mem_of_getElem? (i := 100) (rfl : tables_1_1[100]? = some _))) rfl
theorem gm_83 : (.laysFinal RX2 "BirthStreet" "kept" "LBirthStreet$Moment;" : Cond) ∈ gG := gm_t (List.mem_append_left _ (List.mem_of_getElem? (i := 102) (rfl : tables_1_1[102]? = some _))) rfl
theorem gm_84 : (.lays RX2 "BirthStreet" "isKept" "Z" : Cond) ∈ gG := gm_t (List.mem_append_left _ (List.mem_of_getElem? (i := 104) (rfl : tables_1_1[104]? = some _))) rfl
theorem gm_85 : (.laysFinal RX2 "BirthStreet" "wouldBe" "LBirthStreet$Row;" : Cond) ∈ gG := gm_t (List.mem_append_left _ (List.mem_of_getElem? (i := 106) (rfl : tables_1_1[106]? = some _))) rfl
theorem gm_86 : (.laysFinal RX2 "BirthStreet" "possible" "LBirthStreet$Row;" : Cond) ∈ gG := gm_t (List.mem_append_left _ (List.mem_of_getElem? (i := 108) (rfl : tables_1_1[108]? = some _))) rfl
theorem gm_87 : (.laysFinal RX2 "BirthStreet" "tally" "LBirthStreet$Row;" : Cond) ∈ gG := gm_t (List.mem_append_left _ (List.mem_of_getElem? (i := 110) (rfl : tables_1_1[110]? = some _))) rfl
theorem gm_88 : (.methodLink RL 71 yX2_about : Cond) ∈ gG := gm_t (List.mem_append_left _ (List.mem_of_getElem? (i := 113) (rfl : tables_1_1[113]? = some _))) rfl
theorem gm_89 : (.instanceMethod yX2_about : Cond) ∈ gG := gm_t (List.mem_append_left _ (List.mem_of_getElem? (i := 114) (rfl : tables_1_1[114]? = some _))) rfl
theorem gm_90 : (.selects RX2 yX2_about yX2_about : Cond) ∈ gG := gm_t (List.mem_append_left _ (List.mem_of_getElem? (i := 115) (rfl : tables_1_1[115]? = some _))) rfl
theorem gm_91 : (.code yX2_about cX2_about 3 (some .int) : Cond) ∈ gG := gm_t (List.mem_append_left _ (List.mem_of_getElem? (i := 116) (rfl : tables_1_1[116]? = some _))) rfl
theorem gm_92 : (.methodLink RX2 79 yX2_isHouse : Cond) ∈ gG := gm_t (List.mem_append_left _ (List.mem_of_getElem? (i := 117) (rfl : tables_1_1[117]? = some _))) rfl
theorem gm_93 : (.instanceMethod yX2_isHouse : Cond) ∈ gG := gm_t (List.mem_append_left _ (List.mem_of_getElem? (i := 119) (rfl : tables_1_1[119]? = some _))) rfl
theorem gm_94 : (.code yX2_isHouse cX2_isHouse 2 (some .boolean) : Cond) ∈ gG := gm_t (List.mem_append_left _ (List.mem_of_getElem? (i := 120) (rfl : tables_1_1[120]? = some _))) rfl
theorem gm_95 : (.methodLink RX2 58 yX1_at : Cond) ∈ gG := gm_t (List.mem_append_left _ (List.mem_of_getElem? (i := 121) (rfl : tables_1_1[121]? = some _))) rfl
theorem gm_96 : (.instanceMethod yX1_at : Cond) ∈ gG := gm_t (List.mem_append_left _ (List.mem_of_getElem? (i := 122) (rfl : tables_1_1[122]? = some _))) rfl
theorem gm_97 : (.selects RX1 yX1_at yX1_at : Cond) ∈ gG := gm_t (List.mem_append_left _ (List.mem_of_getElem? (i := 123) (rfl : tables_1_1[123]? = some _))) rfl
theorem gm_98 : (.code yX1_at cX1_at 2 (some .int) : Cond) ∈ gG := gm_t (List.mem_append_left _ (List.mem_of_getElem? (i := 124) (rfl : tables_1_1[124]? = some _))) rfl
theorem gm_99 : (.methodLink RX2 83 yX2_numberNow : Cond) ∈ gG := gm_t (List.mem_append_left _ (List.mem_of_getElem? (i := 125) (rfl : tables_1_1[125]? = some _))) rfl
theorem gm_100 : (.instanceMethod yX2_numberNow : Cond) ∈ gG := gm_t (List.mem_append_left _ (List.mem_of_getElem? (i := 127) (rfl : tables_1_1[127]? = some _))) rfl
theorem gm_101 : (.code yX2_numberNow cX2_numberNow 2 (some .int) : Cond) ∈ gG := gm_t (List.mem_append_left _ (List.mem_of_getElem? (i := 128) (rfl : tables_1_1[128]? = some _))) rfl
theorem gm_102 : (.methodLink RX2 247 yX2_numberAt : Cond) ∈ gG := gm_t (List.mem_append_left _ (List.mem_of_getElem? (i := 129) (rfl : tables_1_1[129]? = some _))) rfl
theorem gm_103 : (.instanceMethod yX2_numberAt : Cond) ∈ gG := gm_t (List.mem_append_left _ (List.mem_of_getElem? (i := 131) (rfl : tables_1_1[131]? = some _))) rfl
theorem gm_104 : (.code yX2_numberAt cX2_numberAt 3 (some .int) : Cond) ∈ gG := gm_t (List.mem_append_left _ (List.mem_of_getElem? (i := 132) (rfl : tables_1_1[132]? = some _))) rfl
theorem gm_105 : (.methodLink RX2 156 yX2_numberOf : Cond) ∈ gG := gm_t (List.mem_append_left _ (List.mem_of_getElem? (i := 133) (rfl : tables_1_1[133]? = some _))) rfl
theorem gm_106 : (.static yX2_numberOf : Cond) ∈ gG := gm_t (List.mem_append_left _ (List.mem_of_getElem? (i := 134) (rfl : tables_1_1[134]? = some _))) rfl
theorem gm_107 : (.code yX2_numberOf cX2_numberOf 2 (some .int) : Cond) ∈ gG := gm_t (List.mem_append_left _ (List.mem_of_getElem? (i := 135) (rfl : tables_1_1[135]? = some _))) rfl
theorem gm_108 : (.methodLink RX2 89 yX2_owedBy : Cond) ∈ gG := gm_t (List.mem_append_left _ (List.mem_of_getElem? (i := 136) (rfl : tables_1_1[136]? = some _))) rfl
theorem gm_109 : (.instanceMethod yX2_owedBy : Cond) ∈ gG := gm_t (List.mem_append_left _ (List.mem_of_getElem? (i := 138) (rfl : tables_1_1[138]? = some _))) rfl
theorem gm_110 : (.code yX2_owedBy cX2_owedBy 4 (some .int) : Cond) ∈ gG := gm_t (List.mem_append_left _ (List.mem_of_getElem? (i := 139) (rfl : tables_1_1[139]? = some _))) rfl
theorem gm_111 : (.methodLink RX2 132 yX2_houseWith : Cond) ∈ gG := gm_t (List.mem_append_left _ (List.mem_of_getElem? (i := 140) (rfl : tables_1_1[140]? = some _))) rfl
theorem gm_112 : (.instanceMethod yX2_houseWith : Cond) ∈ gG := gm_t (List.mem_append_left _ (List.mem_of_getElem? (i := 142) (rfl : tables_1_1[142]? = some _))) rfl
theorem gm_113 : (.code yX2_houseWith cX2_houseWith 4 (some .int) : Cond) ∈ gG := gm_t (List.mem_append_left _ (List.mem_of_getElem? (i := 143) (rfl : tables_1_1[143]? = some _))) rfl
theorem gm_114 : (.methodLink RX2 129 yX2_numberOn : Cond) ∈ gG := gm_t (List.mem_append_left _ (List.mem_of_getElem? (i := 144) (rfl : tables_1_1[144]? = some _))) rfl
theorem gm_115 : (.instanceMethod yX2_numberOn : Cond) ∈ gG := gm_t (List.mem_append_left _ (List.mem_of_getElem? (i := 146) (rfl : tables_1_1[146]? = some _))) rfl
theorem gm_116 : (.code yX2_numberOn cX2_numberOn 4 (some .int) : Cond) ∈ gG := gm_t (List.mem_append_left _ (List.mem_of_getElem? (i := 147) (rfl : tables_1_1[147]? = some _))) rfl
theorem gm_117 : (.methodLink RX2 118 yX2_cellOf : Cond) ∈ gG := gm_t (List.mem_append_left _ (List.mem_of_getElem? (i := 148) (rfl : tables_1_1[148]? = some _))) rfl
theorem gm_118 : (.static yX2_cellOf : Cond) ∈ gG := gm_t (List.mem_append_left _ (List.mem_of_getElem? (i := 149) (rfl : tables_1_1[149]? = some _))) rfl
theorem gm_119 : (.code yX2_cellOf cX2_cellOf 2 (some .int) : Cond) ∈ gG := gm_t (List.mem_append_left _ (List.mem_of_getElem? (i := 150) (rfl : tables_1_1[150]? = some _))) rfl
theorem gm_120 : (.methodLink RX2 92 yX2_turnInWalk : Cond) ∈ gG := gm_t (List.mem_append_left _ (List.mem_of_getElem? (i := 151) (rfl : tables_1_1[151]? = some _))) rfl
theorem gm_121 : (.instanceMethod yX2_turnInWalk : Cond) ∈ gG := gm_t (List.mem_append_left _ (List.mem_of_getElem? (i := 153) (rfl : tables_1_1[153]? = some _))) rfl
theorem gm_122 : (.code yX2_turnInWalk cX2_turnInWalk 7 (some .int) : Cond) ∈ gG := gm_t (List.mem_append_left _ (List.mem_of_getElem? (i := 154) (rfl : tables_1_1[154]? = some _))) rfl
theorem gm_123 : (.methodLink RL 86 yX2_as : Cond) ∈ gG := gm_t (List.mem_append_left _ (List.mem_of_getElem? (i := 155) (rfl : tables_1_1[155]? = some _))) rfl
theorem gm_124 : (.instanceMethod yX2_as : Cond) ∈ gG := gm_t (List.mem_append_left _ (List.mem_of_getElem? (i := 156) (rfl : tables_1_1[156]? = some _))) rfl
theorem gm_125 : (.selects RX2 yX2_as yX2_as : Cond) ∈ gG := gm_t (List.mem_append_left _ (List.mem_of_getElem? (i := 157) (rfl : tables_1_1[157]? = some _))) rfl
theorem gm_126 : (.code yX2_as cX2_as 3 (some .int) : Cond) ∈ gG := gm_t (List.mem_append_left _ (List.mem_of_getElem? (i := 158) (rfl : tables_1_1[158]? = some _))) rfl
theorem gm_127 : (.methodLink RX2 96 yX2_isA : Cond) ∈ gG := gm_t (List.mem_append_left _ (List.mem_of_getElem? (i := 159) (rfl : tables_1_1[159]? = some _))) rfl
theorem gm_128 : (.static yX2_isA : Cond) ∈ gG := gm_t (List.mem_append_left _ (List.mem_of_getElem? (i := 160) (rfl : tables_1_1[160]? = some _))) rfl
theorem gm_129 : (.code yX2_isA cX2_isA 2 (some .boolean) : Cond) ∈ gG := gm_t (List.mem_append_left _ (List.mem_of_getElem? (i := 161) (rfl : tables_1_1[161]? = some _))) rfl
theorem gm_130 : (.methodLink RL 41 yX2_birth : Cond) ∈ gG := gm_t (List.mem_append_left _ (List.mem_of_getElem? (i := 162) (rfl : tables_1_1[162]? = some _))) rfl
theorem gm_131 : (.instanceMethod yX2_birth : Cond) ∈ gG := gm_t (List.mem_append_left _ (List.mem_of_getElem? (i := 163) (rfl : tables_1_1[163]? = some _))) rfl
theorem gm_132 : (.selects RX2 yX2_birth yX2_birth : Cond) ∈ gG := gm_t (List.mem_append_left _ (List.mem_of_getElem? (i := 164) (rfl : tables_1_1[164]? = some _))) rfl
theorem gm_133 : (.code yX2_birth cX2_birth 2 (some .int) : Cond) ∈ gG := gm_t (List.mem_append_left _ (List.mem_of_getElem? (i := 165) (rfl : tables_1_1[165]? = some _))) rfl
theorem gm_134 : (.methodLink RX2 99 yX2_bear : Cond) ∈ gG := gm_t (List.mem_append_left _ (List.mem_of_getElem? (i := 166) (rfl : tables_1_1[166]? = some _))) rfl
theorem gm_135 : (.instanceMethod yX2_bear : Cond) ∈ gG := gm_t (List.mem_append_left _ (List.mem_of_getElem? (i := 168) (rfl : tables_1_1[168]? = some _))) rfl
theorem gm_136 : (.code yX2_bear cX2_bear 3 none : Cond) ∈ gG := gm_t (List.mem_append_left _ (List.mem_of_getElem? (i := 169) (rfl : tables_1_1[169]? = some _))) rfl
theorem gm_137 : (.methodLink RX2 54 yX1_put : Cond) ∈ gG := gm_t (List.mem_append_left _ (List.mem_of_getElem? (i := 170) (rfl : tables_1_1[170]? = some _))) rfl
theorem gm_138 : (.instanceMethod yX1_put : Cond) ∈ gG := gm_t (List.mem_append_left _ (List.mem_of_getElem? (i := 171) (rfl : tables_1_1[171]? = some _))) rfl
theorem gm_139 : (.selects RX1 yX1_put yX1_put : Cond) ∈ gG := gm_t (List.mem_append_left _ (List.mem_of_getElem? (i := 172) (rfl : tables_1_1[172]? = some _))) rfl
theorem gm_140 : (.code yX1_put cX1_put 3 none : Cond) ∈ gG := gm_t (List.mem_append_left _ (List.mem_of_getElem? (i := 173) (rfl : tables_1_1[173]? = some _))) rfl
theorem gm_141 : (.methodLink RX2 109 yX2_lendsACradle : Cond) ∈ gG := gm_t (List.mem_append_left _ (List.mem_of_getElem? (i := 174) (rfl : tables_1_1[174]? = some _))) rfl
theorem gm_142 : (.instanceMethod yX2_lendsACradle : Cond) ∈ gG := gm_t (List.mem_append_left _ (List.mem_of_getElem? (i := 176) (rfl : tables_1_1[176]? = some _))) rfl
theorem gm_143 : (.code yX2_lendsACradle cX2_lendsACradle 2 (some .boolean) : Cond) ∈ gG := gm_t (List.mem_append_left _ (List.mem_of_getElem? (i := 177) (rfl : tables_1_1[177]? = some _))) rfl
theorem gm_144 : (.methodLink RX2 106 yX1_add : Cond) ∈ gG := gm_t (List.mem_append_left _ (List.mem_of_getElem? (i := 178) (rfl : tables_1_1[178]? = some _))) rfl
theorem gm_145 : (.instanceMethod yX1_add : Cond) ∈ gG := gm_t (List.mem_append_left _ (List.mem_of_getElem? (i := 179) (rfl : tables_1_1[179]? = some _))) rfl
theorem gm_146 : (.selects RX1 yX1_add yX1_add : Cond) ∈ gG := gm_t (List.mem_append_left _ (List.mem_of_getElem? (i := 180) (rfl : tables_1_1[180]? = some _))) rfl
theorem gm_147 : (.code yX1_add cX1_add 3 none : Cond) ∈ gG := gm_t (List.mem_append_left _ (List.mem_of_getElem? (i := 181) (rfl : tables_1_1[181]? = some _))) rfl
theorem gm_148 : (.methodLink RX1 13 yX1_at : Cond) ∈ gG := gm_t (List.mem_append_left _ (List.mem_of_getElem? (i := 182) (rfl : tables_1_1[182]? = some _))) rfl
theorem gm_149 : (.methodLink RX1 17 yX1_put : Cond) ∈ gG := gm_t (List.mem_append_left _ (List.mem_of_getElem? (i := 183) (rfl : tables_1_1[183]? = some _))) rfl
theorem gm_150 : (.methodLink RL 47 yX2_day : Cond) ∈ gG := gm_t (List.mem_append_left _ (List.mem_of_getElem? (i := 184) (rfl : tables_1_1[184]? = some _))) rfl
theorem gm_151 : (.instanceMethod yX2_day : Cond) ∈ gG := gm_t (List.mem_append_left _ (List.mem_of_getElem? (i := 185) (rfl : tables_1_1[185]? = some _))) rfl
theorem gm_152 : (.selects RX2 yX2_day yX2_day : Cond) ∈ gG := gm_t (List.mem_append_left _ (List.mem_of_getElem? (i := 186) (rfl : tables_1_1[186]? = some _))) rfl
theorem gm_153 : (.code yX2_day cX2_day 2 (some .int) : Cond) ∈ gG := gm_t (List.mem_append_left _ (List.mem_of_getElem? (i := 187) (rfl : tables_1_1[187]? = some _))) rfl
theorem gm_154 : (.methodLink RX2 122 yX2_growOlder : Cond) ∈ gG := gm_t (List.mem_append_left _ (List.mem_of_getElem? (i := 188) (rfl : tables_1_1[188]? = some _))) rfl
theorem gm_155 : (.instanceMethod yX2_growOlder : Cond) ∈ gG := gm_t (List.mem_append_left _ (List.mem_of_getElem? (i := 190) (rfl : tables_1_1[190]? = some _))) rfl
theorem gm_156 : (.code yX2_growOlder cX2_growOlder 3 none : Cond) ∈ gG := gm_t (List.mem_append_left _ (List.mem_of_getElem? (i := 191) (rfl : tables_1_1[191]? = some _))) rfl
theorem gm_157 : (.methodLink RX2 159 yX2_ageNextDay : Cond) ∈ gG := gm_t (List.mem_append_left _ (List.mem_of_getElem? (i := 192) (rfl : tables_1_1[192]? = some _))) rfl
theorem gm_158 : (.static yX2_ageNextDay : Cond) ∈ gG := gm_t (List.mem_append_left _ (List.mem_of_getElem? (i := 193) (rfl : tables_1_1[193]? = some _))) rfl
theorem gm_159 : (.code yX2_ageNextDay cX2_ageNextDay 2 (some .int) : Cond) ∈ gG := gm_t (List.mem_append_left _ (List.mem_of_getElem? (i := 194) (rfl : tables_1_1[194]? = some _))) rfl
theorem gm_160 : (.methodLink RL 77 yX2_then : Cond) ∈ gG := gm_t (List.mem_append_left _ (List.mem_of_getElem? (i := 195) (rfl : tables_1_1[195]? = some _))) rfl
theorem gm_161 : (.instanceMethod yX2_then : Cond) ∈ gG := gm_t (List.mem_append_left _ (List.mem_of_getElem? (i := 196) (rfl : tables_1_1[196]? = some _))) rfl
theorem gm_162 : (.selects RX2 yX2_then yX2_then : Cond) ∈ gG := gm_t (List.mem_append_left _ (List.mem_of_getElem? (i := 197) (rfl : tables_1_1[197]? = some _))) rfl
theorem gm_163 : (.code yX2_then cX2_then 3 (some .int) : Cond) ∈ gG := gm_t (List.mem_append_left _ (List.mem_of_getElem? (i := 198) (rfl : tables_1_1[198]? = some _))) rfl
theorem gm_164 : (.methodLink RX2 126 yX2_isDay : Cond) ∈ gG := gm_t (List.mem_append_left _ (List.mem_of_getElem? (i := 199) (rfl : tables_1_1[199]? = some _))) rfl
theorem gm_165 : (.instanceMethod yX2_isDay : Cond) ∈ gG := gm_t (List.mem_append_left _ (List.mem_of_getElem? (i := 201) (rfl : tables_1_1[201]? = some _))) rfl
theorem gm_166 : (.code yX2_isDay cX2_isDay 2 (some .boolean) : Cond) ∈ gG := gm_t (List.mem_append_left _ (List.mem_of_getElem? (i := 202) (rfl : tables_1_1[202]? = some _))) rfl
theorem gm_167 : (.methodLink RL 83 yX2_goesTo : Cond) ∈ gG := gm_t (List.mem_append_left _ (List.mem_of_getElem? (i := 203) (rfl : tables_1_1[203]? = some _))) rfl
theorem gm_168 : (.instanceMethod yX2_goesTo : Cond) ∈ gG := gm_t (List.mem_append_left _ (List.mem_of_getElem? (i := 204) (rfl : tables_1_1[204]? = some _))) rfl
theorem gm_169 : (.selects RX2 yX2_goesTo yX2_goesTo : Cond) ∈ gG := gm_t (List.mem_append_left _ (List.mem_of_getElem? (i := 205) (rfl : tables_1_1[205]? = some _))) rfl
theorem gm_170 : (.code yX2_goesTo cX2_goesTo 3 (some .int) : Cond) ∈ gG := gm_t (List.mem_append_left _ (List.mem_of_getElem? (i := 206) (rfl : tables_1_1[206]? = some _))) rfl
theorem gm_171 : (.methodLink RL 92 yX2_walk : Cond) ∈ gG := gm_t (List.mem_append_left _ (List.mem_of_getElem? (i := 207) (rfl : tables_1_1[207]? = some _))) rfl
theorem gm_172 : (.instanceMethod yX2_walk : Cond) ∈ gG := gm_t (List.mem_append_left _ (List.mem_of_getElem? (i := 208) (rfl : tables_1_1[208]? = some _))) rfl
theorem gm_173 : (.selects RX2 yX2_walk yX2_walk : Cond) ∈ gG := gm_t (List.mem_append_left _ (List.mem_of_getElem? (i := 209) (rfl : tables_1_1[209]? = some _))) rfl
theorem gm_174 : (.code yX2_walk cX2_walk 1 (some .int) : Cond) ∈ gG := gm_t (List.mem_append_left _ (List.mem_of_getElem? (i := 210) (rfl : tables_1_1[210]? = some _))) rfl
theorem gm_175 : (.methodLink RX2 135 yX2_lengthOfWalk : Cond) ∈ gG := gm_t (List.mem_append_left _ (List.mem_of_getElem? (i := 211) (rfl : tables_1_1[211]? = some _))) rfl
theorem gm_176 : (.instanceMethod yX2_lengthOfWalk : Cond) ∈ gG := gm_t (List.mem_append_left _ (List.mem_of_getElem? (i := 213) (rfl : tables_1_1[213]? = some _))) rfl
theorem gm_177 : (.code yX2_lengthOfWalk cX2_lengthOfWalk 6 (some .int) : Cond) ∈ gG := gm_t (List.mem_append_left _ (List.mem_of_getElem? (i := 214) (rfl : tables_1_1[214]? = some _))) rfl
theorem gm_178 : (.methodLink RX2 250 yX2_houseOfTurn : Cond) ∈ gG := gm_t (List.mem_append_left _ (List.mem_of_getElem? (i := 215) (rfl : tables_1_1[215]? = some _))) rfl
theorem gm_179 : (.instanceMethod yX2_houseOfTurn : Cond) ∈ gG := gm_t (List.mem_append_left _ (List.mem_of_getElem? (i := 217) (rfl : tables_1_1[217]? = some _))) rfl
theorem gm_180 : (.code yX2_houseOfTurn cX2_houseOfTurn 4 (some .int) : Cond) ∈ gG := gm_t (List.mem_append_left _ (List.mem_of_getElem? (i := 218) (rfl : tables_1_1[218]? = some _))) rfl
theorem gm_181 : (.methodLink RX2 253 yJ9_abs_0f7a4 : Cond) ∈ gG := gm_t (List.mem_append_left _ (List.mem_of_getElem? (i := 219) (rfl : tables_1_1[219]? = some _))) rfl
theorem gm_182 : (.static yJ9_abs_0f7a4 : Cond) ∈ gG := gm_t (List.mem_append_left _ (List.mem_of_getElem? (i := 220) (rfl : tables_1_1[220]? = some _))) rfl
theorem gm_183 : (.code yJ9_abs_0f7a4 cJ9_abs_0f7a4 1 (some .int) : Cond) ∈ gG := gm_t (List.mem_append_left _ (List.mem_of_getElem? (i := 221) (rfl : tables_1_1[221]? = some _))) rfl
theorem gm_184 : (.methodLink RL 68 yX2_debt : Cond) ∈ gG := gm_t (List.mem_append_left _ (List.mem_of_getElem? (i := 222) (rfl : tables_1_1[222]? = some _))) rfl
theorem gm_185 : (.instanceMethod yX2_debt : Cond) ∈ gG := gm_t (List.mem_append_left _ (List.mem_of_getElem? (i := 223) (rfl : tables_1_1[223]? = some _))) rfl
theorem gm_186 : (.selects RX2 yX2_debt yX2_debt : Cond) ∈ gG := gm_t (List.mem_append_left _ (List.mem_of_getElem? (i := 224) (rfl : tables_1_1[224]? = some _))) rfl
theorem gm_187 : (.code yX2_debt cX2_debt 3 (some .int) : Cond) ∈ gG := gm_t (List.mem_append_left _ (List.mem_of_getElem? (i := 225) (rfl : tables_1_1[225]? = some _))) rfl
theorem gm_188 : (.methodLink RL 61 yX2_pay : Cond) ∈ gG := gm_t (List.mem_append_left _ (List.mem_of_getElem? (i := 226) (rfl : tables_1_1[226]? = some _))) rfl
theorem gm_189 : (.instanceMethod yX2_pay : Cond) ∈ gG := gm_t (List.mem_append_left _ (List.mem_of_getElem? (i := 227) (rfl : tables_1_1[227]? = some _))) rfl
theorem gm_190 : (.selects RX2 yX2_pay yX2_pay : Cond) ∈ gG := gm_t (List.mem_append_left _ (List.mem_of_getElem? (i := 228) (rfl : tables_1_1[228]? = some _))) rfl
theorem gm_191 : (.code yX2_pay cX2_pay 3 (some .int) : Cond) ∈ gG := gm_t (List.mem_append_left _ (List.mem_of_getElem? (i := 229) (rfl : tables_1_1[229]? = some _))) rfl
theorem gm_192 : (.methodLink RL 89 yX2_when : Cond) ∈ gG := gm_t (List.mem_append_left _ (List.mem_of_getElem? (i := 230) (rfl : tables_1_1[230]? = some _))) rfl
theorem gm_193 : (.instanceMethod yX2_when : Cond) ∈ gG := gm_t (List.mem_append_left _ (List.mem_of_getElem? (i := 231) (rfl : tables_1_1[231]? = some _))) rfl
theorem gm_194 : (.selects RX2 yX2_when yX2_when : Cond) ∈ gG := gm_t (List.mem_append_left _ (List.mem_of_getElem? (i := 232) (rfl : tables_1_1[232]? = some _))) rfl
theorem gm_195 : (.code yX2_when cX2_when 6 (some .int) : Cond) ∈ gG := gm_t (List.mem_append_left _ (List.mem_of_getElem? (i := 233) (rfl : tables_1_1[233]? = some _))) rfl
theorem gm_196 : (.methodLink RL 116 yX2_years : Cond) ∈ gG := gm_t (List.mem_append_left _ (List.mem_of_getElem? (i := 234) (rfl : tables_1_1[234]? = some _))) rfl
theorem gm_197 : (.instanceMethod yX2_years : Cond) ∈ gG := gm_t (List.mem_append_left _ (List.mem_of_getElem? (i := 235) (rfl : tables_1_1[235]? = some _))) rfl
theorem gm_198 : (.selects RX2 yX2_years yX2_years : Cond) ∈ gG := gm_t (List.mem_append_left _ (List.mem_of_getElem? (i := 236) (rfl : tables_1_1[236]? = some _))) rfl
theorem gm_199 : (.code yX2_years cX2_years 7 (some .int) : Cond) ∈ gG := gm_t (List.mem_append_left _ (List.mem_of_getElem? (i := 237) (rfl : tables_1_1[237]? = some _))) rfl
theorem gm_200 : (.methodLink RX2 180 yX1_take : Cond) ∈ gG := gm_t (List.mem_append_left _ (List.mem_of_getElem? (i := 238) (rfl : tables_1_1[238]? = some _))) rfl
theorem gm_201 : (.instanceMethod yX1_take : Cond) ∈ gG := gm_t (List.mem_append_left _ (List.mem_of_getElem? (i := 239) (rfl : tables_1_1[239]? = some _))) rfl
theorem gm_202 : (.selects RX1 yX1_take yX1_take : Cond) ∈ gG := gm_t (List.mem_append_right _ (List.mem_of_getElem? (i := 0) (rfl : tables_1_2[0]? = some _))) rfl
theorem gm_203 : (.code yX1_take cX1_take 3 none : Cond) ∈ gG := gm_t (List.mem_append_right _ (List.mem_of_getElem? (i := 1) (rfl : tables_1_2[1]? = some _))) rfl
theorem gm_204 : (.methodLink RX2 183 yX2_nextSeed : Cond) ∈ gG := gm_t (List.mem_append_right _ (List.mem_of_getElem? (i := 2) (rfl : tables_1_2[2]? = some _))) rfl
theorem gm_205 : (.static yX2_nextSeed : Cond) ∈ gG := gm_t (List.mem_append_right _ (List.mem_of_getElem? (i := 3) (rfl : tables_1_2[3]? = some _))) rfl
theorem gm_206 : (.code yX2_nextSeed cX2_nextSeed 1 (some .int) : Cond) ∈ gG := gm_t (List.mem_append_right _ (List.mem_of_getElem? (i := 4) (rfl : tables_1_2[4]? = some _))) rfl
theorem gm_207 : (.constantLong RX2 273 (1103515245 : Int64) : Cond) ∈ gG := gm_t (List.mem_append_right _ (List.mem_of_getElem? (i := 5) (rfl : tables_1_2[5]? = some _))) rfl
theorem gm_208 : (.constantLong RX2 275 (12345 : Int64) : Cond) ∈ gG := gm_t (List.mem_append_right _ (List.mem_of_getElem? (i := 6) (rfl : tables_1_2[6]? = some _))) rfl
theorem gm_209 : (.constantLong RX2 277 (2147483648 : Int64) : Cond) ∈ gG := gm_t (List.mem_append_right _ (List.mem_of_getElem? (i := 7) (rfl : tables_1_2[7]? = some _))) rfl
theorem gm_210 : (.methodLink RX2 186 yX2_drawnHouse : Cond) ∈ gG := gm_t (List.mem_append_right _ (List.mem_of_getElem? (i := 8) (rfl : tables_1_2[8]? = some _))) rfl
theorem gm_211 : (.instanceMethod yX2_drawnHouse : Cond) ∈ gG := gm_t (List.mem_append_right _ (List.mem_of_getElem? (i := 10) (rfl : tables_1_2[10]? = some _))) rfl
theorem gm_212 : (.code yX2_drawnHouse cX2_drawnHouse 2 (some .int) : Cond) ∈ gG := gm_t (List.mem_append_right _ (List.mem_of_getElem? (i := 11) (rfl : tables_1_2[11]? = some _))) rfl
theorem gm_213 : (.constant RX2 279 (65536 : Int32) : Cond) ∈ gG := gm_t (List.mem_append_right _ (List.mem_of_getElem? (i := 12) (rfl : tables_1_2[12]? = some _))) rfl
theorem gm_214 : (.methodLink RX2 189 yX2_bearIfMayBe : Cond) ∈ gG := gm_t (List.mem_append_right _ (List.mem_of_getElem? (i := 13) (rfl : tables_1_2[13]? = some _))) rfl
theorem gm_215 : (.instanceMethod yX2_bearIfMayBe : Cond) ∈ gG := gm_t (List.mem_append_right _ (List.mem_of_getElem? (i := 15) (rfl : tables_1_2[15]? = some _))) rfl
theorem gm_216 : (.code yX2_bearIfMayBe cX2_bearIfMayBe 3 none : Cond) ∈ gG := gm_t (List.mem_append_right _ (List.mem_of_getElem? (i := 16) (rfl : tables_1_2[16]? = some _))) rfl
theorem gm_217 : (.methodLink RX2 192 yX2_allNumbers : Cond) ∈ gG := gm_t (List.mem_append_right _ (List.mem_of_getElem? (i := 17) (rfl : tables_1_2[17]? = some _))) rfl
theorem gm_218 : (.instanceMethod yX2_allNumbers : Cond) ∈ gG := gm_t (List.mem_append_right _ (List.mem_of_getElem? (i := 19) (rfl : tables_1_2[19]? = some _))) rfl
theorem gm_219 : (.code yX2_allNumbers cX2_allNumbers 4 (some .int) : Cond) ∈ gG := gm_t (List.mem_append_right _ (List.mem_of_getElem? (i := 20) (rfl : tables_1_2[20]? = some _))) rfl
theorem gm_220 : (.methodLink RL 98 yX2_count : Cond) ∈ gG := gm_t (List.mem_append_right _ (List.mem_of_getElem? (i := 21) (rfl : tables_1_2[21]? = some _))) rfl
theorem gm_221 : (.instanceMethod yX2_count : Cond) ∈ gG := gm_t (List.mem_append_right _ (List.mem_of_getElem? (i := 22) (rfl : tables_1_2[22]? = some _))) rfl
theorem gm_222 : (.selects RX2 yX2_count yX2_count : Cond) ∈ gG := gm_t (List.mem_append_right _ (List.mem_of_getElem? (i := 23) (rfl : tables_1_2[23]? = some _))) rfl
theorem gm_223 : (.code yX2_count cX2_count 2 (some .int) : Cond) ∈ gG := gm_t (List.mem_append_right _ (List.mem_of_getElem? (i := 24) (rfl : tables_1_2[24]? = some _))) rfl
theorem gm_224 : (.methodLink RX2 198 yX2_unlikeNumbers : Cond) ∈ gG := gm_t (List.mem_append_right _ (List.mem_of_getElem? (i := 25) (rfl : tables_1_2[25]? = some _))) rfl
theorem gm_225 : (.instanceMethod yX2_unlikeNumbers : Cond) ∈ gG := gm_t (List.mem_append_right _ (List.mem_of_getElem? (i := 27) (rfl : tables_1_2[27]? = some _))) rfl
theorem gm_226 : (.code yX2_unlikeNumbers cX2_unlikeNumbers 3 (some .int) : Cond) ∈ gG := gm_t (List.mem_append_right _ (List.mem_of_getElem? (i := 28) (rfl : tables_1_2[28]? = some _))) rfl
theorem gm_227 : (.methodLink RX2 201 yX2_owedByAll : Cond) ∈ gG := gm_t (List.mem_append_right _ (List.mem_of_getElem? (i := 29) (rfl : tables_1_2[29]? = some _))) rfl
theorem gm_228 : (.instanceMethod yX2_owedByAll : Cond) ∈ gG := gm_t (List.mem_append_right _ (List.mem_of_getElem? (i := 31) (rfl : tables_1_2[31]? = some _))) rfl
theorem gm_229 : (.code yX2_owedByAll cX2_owedByAll 3 (some .int) : Cond) ∈ gG := gm_t (List.mem_append_right _ (List.mem_of_getElem? (i := 32) (rfl : tables_1_2[32]? = some _))) rfl
theorem gm_230 : (.methodLink RL 55 yL_cell : Cond) ∈ gG := gm_t (List.mem_append_right _ (List.mem_of_getElem? (i := 33) (rfl : tables_1_2[33]? = some _))) rfl
theorem gm_231 : (.static yL_cell : Cond) ∈ gG := gm_t (List.mem_append_right _ (List.mem_of_getElem? (i := 34) (rfl : tables_1_2[34]? = some _))) rfl
theorem gm_232 : (.code yL_cell cL_cell 2 (some .int) : Cond) ∈ gG := gm_t (List.mem_append_right _ (List.mem_of_getElem? (i := 35) (rfl : tables_1_2[35]? = some _))) rfl
theorem gm_233 : (.constant RL 7 (2147483647 : Int32) : Cond) ∈ gG := gm_t (List.mem_append_right _ (List.mem_of_getElem? (i := 36) (rfl : tables_1_2[36]? = some _))) rfl
theorem gm_234 : (.methodLink RL 58 yL_street : Cond) ∈ gG := gm_t (List.mem_append_right _ (List.mem_of_getElem? (i := 37) (rfl : tables_1_2[37]? = some _))) rfl
theorem gm_235 : (.static yL_street : Cond) ∈ gG := gm_t (List.mem_append_right _ (List.mem_of_getElem? (i := 38) (rfl : tables_1_2[38]? = some _))) rfl
theorem gm_236 : (.code yL_street cL_street 7 (some .boolean) : Cond) ∈ gG := gm_t (List.mem_append_right _ (List.mem_of_getElem? (i := 39) (rfl : tables_1_2[39]? = some _))) rfl
theorem gm_237 : (.methodLink RL 14 yL_put : Cond) ∈ gG := gm_t (List.mem_append_right _ (List.mem_of_getElem? (i := 40) (rfl : tables_1_2[40]? = some _))) rfl
theorem gm_238 : (.static yL_put : Cond) ∈ gG := gm_t (List.mem_append_right _ (List.mem_of_getElem? (i := 41) (rfl : tables_1_2[41]? = some _))) rfl
theorem gm_239 : (.code yL_put cL_put 2 (some .boolean) : Cond) ∈ gG := gm_t (List.mem_append_right _ (List.mem_of_getElem? (i := 42) (rfl : tables_1_2[42]? = some _))) rfl
theorem gm_240 : (.methodLink RL 8 yX2_letter : Cond) ∈ gG := gm_t (List.mem_append_right _ (List.mem_of_getElem? (i := 43) (rfl : tables_1_2[43]? = some _))) rfl
theorem gm_241 : (.instanceMethod yX2_letter : Cond) ∈ gG := gm_t (List.mem_append_right _ (List.mem_of_getElem? (i := 44) (rfl : tables_1_2[44]? = some _))) rfl
theorem gm_242 : (.selects RX2 yX2_letter yX2_letter : Cond) ∈ gG := gm_t (List.mem_append_right _ (List.mem_of_getElem? (i := 45) (rfl : tables_1_2[45]? = some _))) rfl
theorem gm_243 : (.code yX2_letter cX2_letter 2 (some .int) : Cond) ∈ gG := gm_t (List.mem_append_right _ (List.mem_of_getElem? (i := 46) (rfl : tables_1_2[46]? = some _))) rfl
theorem gm_244 : (.methodLink RL 20 yX2_fault : Cond) ∈ gG := gm_t (List.mem_append_right _ (List.mem_of_getElem? (i := 47) (rfl : tables_1_2[47]? = some _))) rfl
theorem gm_245 : (.instanceMethod yX2_fault : Cond) ∈ gG := gm_t (List.mem_append_right _ (List.mem_of_getElem? (i := 48) (rfl : tables_1_2[48]? = some _))) rfl
theorem gm_246 : (.selects RX2 yX2_fault yX2_fault : Cond) ∈ gG := gm_t (List.mem_append_right _ (List.mem_of_getElem? (i := 49) (rfl : tables_1_2[49]? = some _))) rfl
theorem gm_247 : (.code yX2_fault cX2_fault 2 (some .int) : Cond) ∈ gG := gm_t (List.mem_append_right _ (List.mem_of_getElem? (i := 50) (rfl : tables_1_2[50]? = some _))) rfl
theorem gm_248 : (.methodLink RX2 62 yX2_canStandAt : Cond) ∈ gG := gm_t (List.mem_append_right _ (List.mem_of_getElem? (i := 51) (rfl : tables_1_2[51]? = some _))) rfl
theorem gm_249 : (.static yX2_canStandAt : Cond) ∈ gG := gm_t (List.mem_append_right _ (List.mem_of_getElem? (i := 52) (rfl : tables_1_2[52]? = some _))) rfl
theorem gm_250 : (.code yX2_canStandAt cX2_canStandAt 2 (some .boolean) : Cond) ∈ gG := gm_t (List.mem_append_right _ (List.mem_of_getElem? (i := 53) (rfl : tables_1_2[53]? = some _))) rfl
theorem gm_251 : (.methodLink RX2 73 yX2_kindOfLetter : Cond) ∈ gG := gm_t (List.mem_append_right _ (List.mem_of_getElem? (i := 54) (rfl : tables_1_2[54]? = some _))) rfl
theorem gm_252 : (.static yX2_kindOfLetter : Cond) ∈ gG := gm_t (List.mem_append_right _ (List.mem_of_getElem? (i := 55) (rfl : tables_1_2[55]? = some _))) rfl
theorem gm_253 : (.code yX2_kindOfLetter cX2_kindOfLetter 2 (some .int) : Cond) ∈ gG := gm_t (List.mem_append_right _ (List.mem_of_getElem? (i := 56) (rfl : tables_1_2[56]? = some _))) rfl
theorem gn_254 : (.stringRef RX2 233 "htmcb" : Cond) ∈ lw_tbl := List.mem_append_right _ (List.mem_append_right _ (List.mem_of_getElem? (i := 57) (rfl : tables_1_2[57]? = some _)))
theorem gm_255 : (.methodLink RX2 235 yJ0_length_8abf5 : Cond) ∈ gG := gm_t (List.mem_append_right _ (List.mem_of_getElem? (i := 58) (rfl : tables_1_2[58]? = some _))) rfl
theorem gm_256 : (.instanceMethod yJ0_length_8abf5 : Cond) ∈ gG := gm_t (List.mem_append_right _ (List.mem_of_getElem? (i := 59) (rfl : tables_1_2[59]? = some _))) rfl
theorem gm_257 : (.selects RJ0 yJ0_length_8abf5 yJ0_length_8abf5 : Cond) ∈ gG := gm_t (List.mem_append_right _ (List.mem_of_getElem? (i := 60) (rfl : tables_1_2[60]? = some _))) rfl
theorem gm_258 : (.code yJ0_length_8abf5 cJ0_length_8abf5 1 (some .int) : Cond) ∈ gG := gm_t (List.mem_append_right _ (List.mem_of_getElem? (i := 61) (rfl : tables_1_2[61]? = some _))) rfl
theorem gm_259 : (.methodLink RJ0 335 yJ0_coder_7d493 : Cond) ∈ gG := gm_t (List.mem_append_right _ (List.mem_of_getElem? (i := 62) (rfl : tables_1_2[62]? = some _))) rfl
theorem gm_260 : (.instanceMethod yJ0_coder_7d493 : Cond) ∈ gG := gm_t (List.mem_append_right _ (List.mem_of_getElem? (i := 63) (rfl : tables_1_2[63]? = some _))) rfl
theorem gm_261 : (.selects RJ0 yJ0_coder_7d493 yJ0_coder_7d493 : Cond) ∈ gG := gm_t (List.mem_append_right _ (List.mem_of_getElem? (i := 64) (rfl : tables_1_2[64]? = some _))) rfl
theorem gm_262 : (.code yJ0_coder_7d493 cJ0_coder_7d493 1 (some .byte) : Cond) ∈ gG := gm_t (List.mem_append_right _ (List.mem_of_getElem? (i := 65) (rfl : tables_1_2[65]? = some _))) rfl
theorem gm_263 : (.fieldLink RJ0 38 "java/lang/String" "COMPACT_STRINGS" "Z" : Cond) ∈ gG := gm_t (List.mem_append_right _ (List.mem_of_getElem? (i := 66) (rfl : tables_1_2[66]? = some _))) rfl
theorem gm_264 : (.methodLink RX2 240 yJ0_charAt_5068e : Cond) ∈ gG := gm_t (List.mem_append_right _ (List.mem_of_getElem? (i := 68) (rfl : tables_1_2[68]? = some _))) rfl
theorem gm_265 : (.instanceMethod yJ0_charAt_5068e : Cond) ∈ gG := gm_t (List.mem_append_right _ (List.mem_of_getElem? (i := 69) (rfl : tables_1_2[69]? = some _))) rfl
theorem gm_266 : (.selects RJ0 yJ0_charAt_5068e yJ0_charAt_5068e : Cond) ∈ gG := gm_t (List.mem_append_right _ (List.mem_of_getElem? (i := 70) (rfl : tables_1_2[70]? = some _))) rfl
theorem gm_267 : (.code yJ0_charAt_5068e cJ0_charAt_5068e 2 (some .char) : Cond) ∈ gG := gm_t (List.mem_append_right _ (List.mem_of_getElem? (i := 71) (rfl : tables_1_2[71]? = some _))) rfl
theorem gm_268 : (.methodLink RJ0 492 yJ0_isLatin1_aae02 : Cond) ∈ gG := gm_t (List.mem_append_right _ (List.mem_of_getElem? (i := 72) (rfl : tables_1_2[72]? = some _))) rfl
theorem gm_269 : (.instanceMethod yJ0_isLatin1_aae02 : Cond) ∈ gG := gm_t (List.mem_append_right _ (List.mem_of_getElem? (i := 73) (rfl : tables_1_2[73]? = some _))) rfl
theorem gm_270 : (.selects RJ0 yJ0_isLatin1_aae02 yJ0_isLatin1_aae02 : Cond) ∈ gG := gm_t (List.mem_append_right _ (List.mem_of_getElem? (i := 74) (rfl : tables_1_2[74]? = some _))) rfl
theorem gm_271 : (.code yJ0_isLatin1_aae02 cJ0_isLatin1_aae02 1 (some .boolean) : Cond) ∈ gG := gm_t (List.mem_append_right _ (List.mem_of_getElem? (i := 75) (rfl : tables_1_2[75]? = some _))) rfl
theorem gm_272 : (.methodLink RJ0 495 yJ1_charAt_3b067 : Cond) ∈ gG := gm_t (List.mem_append_right _ (List.mem_of_getElem? (i := 76) (rfl : tables_1_2[76]? = some _))) rfl
theorem gm_273 : (.static yJ1_charAt_3b067 : Cond) ∈ gG := gm_t (List.mem_append_right _ (List.mem_of_getElem? (i := 77) (rfl : tables_1_2[77]? = some _))) rfl
theorem gm_274 : (.code yJ1_charAt_3b067 cJ1_charAt_3b067 2 (some .char) : Cond) ∈ gG := gm_t (List.mem_append_right _ (List.mem_of_getElem? (i := 78) (rfl : tables_1_2[78]? = some _))) rfl
theorem gm_275 : (.methodLink RJ1 9 yJ0_checkIndex_df160 : Cond) ∈ gG := gm_t (List.mem_append_right _ (List.mem_of_getElem? (i := 79) (rfl : tables_1_2[79]? = some _))) rfl
theorem gm_276 : (.static yJ0_checkIndex_df160 : Cond) ∈ gG := gm_t (List.mem_append_right _ (List.mem_of_getElem? (i := 80) (rfl : tables_1_2[80]? = some _))) rfl
theorem gm_277 : (.code yJ0_checkIndex_df160 cJ0_checkIndex_df160 2 none : Cond) ∈ gG := gm_t (List.mem_append_right _ (List.mem_of_getElem? (i := 81) (rfl : tables_1_2[81]? = some _))) rfl
theorem gm_278 : (.fieldLink RJ0 1053 "jdk/internal/util/Preconditions" "SIOOBE_FORMATTER" "Ljava/util/function/BiFunction;" : Cond) ∈ gG := gm_t (List.mem_append_right _ (List.mem_of_getElem? (i := 82) (rfl : tables_1_2[82]? = some _))) rfl
theorem gm_279 : (.methodLink RJ0 1059 yJ3_checkIndex_8e157 : Cond) ∈ gG := gm_t (List.mem_append_right _ (List.mem_of_getElem? (i := 84) (rfl : tables_1_2[84]? = some _))) rfl
theorem gm_280 : (.static yJ3_checkIndex_8e157 : Cond) ∈ gG := gm_t (List.mem_append_right _ (List.mem_of_getElem? (i := 85) (rfl : tables_1_2[85]? = some _))) rfl
theorem gm_281 : (.code yJ3_checkIndex_8e157 cJ3_checkIndex_8e157 3 (some .int) : Cond) ∈ gG := gm_t (List.mem_append_right _ (List.mem_of_getElem? (i := 86) (rfl : tables_1_2[86]? = some _))) rfl
theorem gm_282 : (.methodLink RJ0 498 yJ2_charAt_3b067 : Cond) ∈ gG := gm_t (List.mem_append_right _ (List.mem_of_getElem? (i := 87) (rfl : tables_1_2[87]? = some _))) rfl
theorem gm_283 : (.static yJ2_charAt_3b067 : Cond) ∈ gG := gm_t (List.mem_append_right _ (List.mem_of_getElem? (i := 88) (rfl : tables_1_2[88]? = some _))) rfl
theorem gm_284 : (.code yJ2_charAt_3b067 cJ2_charAt_3b067 2 (some .char) : Cond) ∈ gG := gm_t (List.mem_append_right _ (List.mem_of_getElem? (i := 89) (rfl : tables_1_2[89]? = some _))) rfl
theorem gm_285 : (.methodLink RJ2 67 yJ2_checkIndex_2214a : Cond) ∈ gG := gm_t (List.mem_append_right _ (List.mem_of_getElem? (i := 90) (rfl : tables_1_2[90]? = some _))) rfl
theorem gm_286 : (.static yJ2_checkIndex_2214a : Cond) ∈ gG := gm_t (List.mem_append_right _ (List.mem_of_getElem? (i := 91) (rfl : tables_1_2[91]? = some _))) rfl
theorem gm_287 : (.code yJ2_checkIndex_2214a cJ2_checkIndex_2214a 2 none : Cond) ∈ gG := gm_t (List.mem_append_right _ (List.mem_of_getElem? (i := 92) (rfl : tables_1_2[92]? = some _))) rfl
theorem gm_288 : (.methodLink RJ2 48 yJ2_length_9d52b : Cond) ∈ gG := gm_t (List.mem_append_right _ (List.mem_of_getElem? (i := 93) (rfl : tables_1_2[93]? = some _))) rfl
theorem gm_289 : (.static yJ2_length_9d52b : Cond) ∈ gG := gm_t (List.mem_append_right _ (List.mem_of_getElem? (i := 94) (rfl : tables_1_2[94]? = some _))) rfl
theorem gm_290 : (.code yJ2_length_9d52b cJ2_length_9d52b 1 (some .int) : Cond) ∈ gG := gm_t (List.mem_append_right _ (List.mem_of_getElem? (i := 95) (rfl : tables_1_2[95]? = some _))) rfl
theorem gm_291 : (.methodLink RJ2 414 yJ0_checkIndex_df160 : Cond) ∈ gG := gm_t (List.mem_append_right _ (List.mem_of_getElem? (i := 96) (rfl : tables_1_2[96]? = some _))) rfl
theorem gm_292 : (.methodLink RJ2 71 yJ2_getChar_3b067 : Cond) ∈ gG := gm_t (List.mem_append_right _ (List.mem_of_getElem? (i := 97) (rfl : tables_1_2[97]? = some _))) rfl
theorem gm_293 : (.static yJ2_getChar_3b067 : Cond) ∈ gG := gm_t (List.mem_append_right _ (List.mem_of_getElem? (i := 98) (rfl : tables_1_2[98]? = some _))) rfl
theorem gm_294 : (.code yJ2_getChar_3b067 cJ2_getChar_3b067 2 (some .char) : Cond) ∈ gG := gm_t (List.mem_append_right _ (List.mem_of_getElem? (i := 99) (rfl : tables_1_2[99]? = some _))) rfl
theorem gm_295 : (.fieldLink RJ2 44 "java/lang/StringUTF16" "$assertionsDisabled" "Z" : Cond) ∈ gG := gm_t (List.mem_append_right _ (List.mem_of_getElem? (i := 100) (rfl : tables_1_2[100]? = some _))) rfl
theorem gm_296 : (.fieldLink RJ2 59 "java/lang/StringUTF16" "HI_BYTE_SHIFT" "I" : Cond) ∈ gG := gm_t (List.mem_append_right _ (List.mem_of_getElem? (i := 102) (rfl : tables_1_2[102]? = some _))) rfl
theorem gm_297 : (.fieldLink RJ2 63 "java/lang/StringUTF16" "LO_BYTE_SHIFT" "I" : Cond) ∈ gG := gm_t (List.mem_append_right _ (List.mem_of_getElem? (i := 104) (rfl : tables_1_2[104]? = some _))) rfl
theorem gm_298 : (.methodLink RL 24 yX2_street : Cond) ∈ gG := gm_t (List.mem_append_right _ (List.mem_of_getElem? (i := 106) (rfl : tables_1_2[106]? = some _))) rfl
theorem gm_299 : (.instanceMethod yX2_street : Cond) ∈ gG := gm_t (List.mem_append_right _ (List.mem_of_getElem? (i := 107) (rfl : tables_1_2[107]? = some _))) rfl
theorem gm_300 : (.selects RX2 yX2_street yX2_street : Cond) ∈ gG := gm_t (List.mem_append_right _ (List.mem_of_getElem? (i := 108) (rfl : tables_1_2[108]? = some _))) rfl
theorem gm_301 : (.code yX2_street cX2_street 4 (some .int) : Cond) ∈ gG := gm_t (List.mem_append_right _ (List.mem_of_getElem? (i := 109) (rfl : tables_1_2[109]? = some _))) rfl
theorem gm_302 : (.methodLink RX2 66 yX2_housesOnPage : Cond) ∈ gG := gm_t (List.mem_append_right _ (List.mem_of_getElem? (i := 110) (rfl : tables_1_2[110]? = some _))) rfl
theorem gm_303 : (.instanceMethod yX2_housesOnPage : Cond) ∈ gG := gm_t (List.mem_append_right _ (List.mem_of_getElem? (i := 112) (rfl : tables_1_2[112]? = some _))) rfl
theorem gm_304 : (.code yX2_housesOnPage cX2_housesOnPage 2 (some .int) : Cond) ∈ gG := gm_t (List.mem_append_right _ (List.mem_of_getElem? (i := 113) (rfl : tables_1_2[113]? = some _))) rfl
theorem gm_305 : (.methodLink RX2 244 yX2_fault : Cond) ∈ gG := gm_t (List.mem_append_right _ (List.mem_of_getElem? (i := 114) (rfl : tables_1_2[114]? = some _))) rfl
theorem gm_306 : (.methodLink RX2 70 yX0_startAnew : Cond) ∈ gG := gm_t (List.mem_append_right _ (List.mem_of_getElem? (i := 115) (rfl : tables_1_2[115]? = some _))) rfl
theorem gm_307 : (.instanceMethod yX0_startAnew : Cond) ∈ gG := gm_t (List.mem_append_right _ (List.mem_of_getElem? (i := 116) (rfl : tables_1_2[116]? = some _))) rfl
theorem gm_308 : (.selects RX0 yX0_startAnew yX0_startAnew : Cond) ∈ gG := gm_t (List.mem_append_right _ (List.mem_of_getElem? (i := 117) (rfl : tables_1_2[117]? = some _))) rfl
theorem gm_309 : (.code yX0_startAnew cX0_startAnew 1 none : Cond) ∈ gG := gm_t (List.mem_append_right _ (List.mem_of_getElem? (i := 118) (rfl : tables_1_2[118]? = some _))) rfl
theorem gm_310 : (.methodLink RX0 51 yX1_clear : Cond) ∈ gG := gm_t (List.mem_append_right _ (List.mem_of_getElem? (i := 119) (rfl : tables_1_2[119]? = some _))) rfl
theorem gm_311 : (.instanceMethod yX1_clear : Cond) ∈ gG := gm_t (List.mem_append_right _ (List.mem_of_getElem? (i := 120) (rfl : tables_1_2[120]? = some _))) rfl
theorem gm_312 : (.selects RX1 yX1_clear yX1_clear : Cond) ∈ gG := gm_t (List.mem_append_right _ (List.mem_of_getElem? (i := 121) (rfl : tables_1_2[121]? = some _))) rfl
theorem gm_313 : (.code yX1_clear cX1_clear 2 none : Cond) ∈ gG := gm_t (List.mem_append_right _ (List.mem_of_getElem? (i := 122) (rfl : tables_1_2[122]? = some _))) rfl
theorem gm_314 : (.arrayClass .byte : Cond) ∈ gG := gm_t (List.mem_append_right _ (List.mem_of_getElem? (i := 123) (rfl : tables_1_2[123]? = some _))) rfl
theorem gm_315 : (.methodLink RL 27 yL_number : Cond) ∈ gG := gm_t (List.mem_append_right _ (List.mem_of_getElem? (i := 124) (rfl : tables_1_2[124]? = some _))) rfl
theorem gm_316 : (.static yL_number : Cond) ∈ gG := gm_t (List.mem_append_right _ (List.mem_of_getElem? (i := 125) (rfl : tables_1_2[125]? = some _))) rfl
theorem gm_317 : (.code yL_number cL_number 2 (some .int) : Cond) ∈ gG := gm_t (List.mem_append_right _ (List.mem_of_getElem? (i := 126) (rfl : tables_1_2[126]? = some _))) rfl
theorem gm_318 : (.methodLink RL 31 yL_now : Cond) ∈ gG := gm_t (List.mem_append_right _ (List.mem_of_getElem? (i := 127) (rfl : tables_1_2[127]? = some _))) rfl
theorem gm_319 : (.static yL_now : Cond) ∈ gG := gm_t (List.mem_append_right _ (List.mem_of_getElem? (i := 128) (rfl : tables_1_2[128]? = some _))) rfl
theorem gm_320 : (.code yL_now cL_now 2 (some .int) : Cond) ∈ gG := gm_t (List.mem_append_right _ (List.mem_of_getElem? (i := 129) (rfl : tables_1_2[129]? = some _))) rfl
theorem gm_321 : (.methodLink RL 80 yL_then : Cond) ∈ gG := gm_t (List.mem_append_right _ (List.mem_of_getElem? (i := 130) (rfl : tables_1_2[130]? = some _))) rfl
theorem gm_322 : (.static yL_then : Cond) ∈ gG := gm_t (List.mem_append_right _ (List.mem_of_getElem? (i := 131) (rfl : tables_1_2[131]? = some _))) rfl
theorem gm_323 : (.code yL_then cL_then 4 (some .int) : Cond) ∈ gG := gm_t (List.mem_append_right _ (List.mem_of_getElem? (i := 132) (rfl : tables_1_2[132]? = some _))) rfl
theorem gm_324 : (.constantLong RL 35 (127 : Int64) : Cond) ∈ gG := gm_t (List.mem_append_right _ (List.mem_of_getElem? (i := 133) (rfl : tables_1_2[133]? = some _))) rfl
theorem gm_325 : (.methodLink RL 50 yL_pass : Cond) ∈ gG := gm_t (List.mem_append_right _ (List.mem_of_getElem? (i := 134) (rfl : tables_1_2[134]? = some _))) rfl
theorem gm_326 : (.static yL_pass : Cond) ∈ gG := gm_t (List.mem_append_right _ (List.mem_of_getElem? (i := 135) (rfl : tables_1_2[135]? = some _))) rfl
theorem gm_327 : (.code yL_pass cL_pass 2 none : Cond) ∈ gG := gm_t (List.mem_append_right _ (List.mem_of_getElem? (i := 136) (rfl : tables_1_2[136]? = some _))) rfl
theorem gm_328 : (.methodLink RL 37 yL_bears : Cond) ∈ gG := gm_t (List.mem_append_right _ (List.mem_of_getElem? (i := 137) (rfl : tables_1_2[137]? = some _))) rfl
theorem gm_329 : (.static yL_bears : Cond) ∈ gG := gm_t (List.mem_append_right _ (List.mem_of_getElem? (i := 138) (rfl : tables_1_2[138]? = some _))) rfl
theorem gm_330 : (.code yL_bears cL_bears 2 (some .boolean) : Cond) ∈ gG := gm_t (List.mem_append_right _ (List.mem_of_getElem? (i := 139) (rfl : tables_1_2[139]? = some _))) rfl
theorem gm_331 : (.methodLink RL 44 yL_bear : Cond) ∈ gG := gm_t (List.mem_append_right _ (List.mem_of_getElem? (i := 140) (rfl : tables_1_2[140]? = some _))) rfl
theorem gm_332 : (.static yL_bear : Cond) ∈ gG := gm_t (List.mem_append_right _ (List.mem_of_getElem? (i := 141) (rfl : tables_1_2[141]? = some _))) rfl
theorem gm_333 : (.code yL_bear cL_bear 3 (some .int) : Cond) ∈ gG := gm_t (List.mem_append_right _ (List.mem_of_getElem? (i := 142) (rfl : tables_1_2[142]? = some _))) rfl
theorem gm_334 : (.methodLink RL 74 yL_order : Cond) ∈ gG := gm_t (List.mem_append_right _ (List.mem_of_getElem? (i := 143) (rfl : tables_1_2[143]? = some _))) rfl
theorem gm_335 : (.static yL_order : Cond) ∈ gG := gm_t (List.mem_append_right _ (List.mem_of_getElem? (i := 144) (rfl : tables_1_2[144]? = some _))) rfl
theorem gm_336 : (.code yL_order cL_order 4 (some .int) : Cond) ∈ gG := gm_t (List.mem_append_right _ (List.mem_of_getElem? (i := 145) (rfl : tables_1_2[145]? = some _))) rfl
theorem gm_337 : (.methodLink RL 95 yL_walk : Cond) ∈ gG := gm_t (List.mem_append_right _ (List.mem_of_getElem? (i := 146) (rfl : tables_1_2[146]? = some _))) rfl
theorem gm_338 : (.static yL_walk : Cond) ∈ gG := gm_t (List.mem_append_right _ (List.mem_of_getElem? (i := 147) (rfl : tables_1_2[147]? = some _))) rfl
theorem gm_339 : (.code yL_walk cL_walk 7 (some .int) : Cond) ∈ gG := gm_t (List.mem_append_right _ (List.mem_of_getElem? (i := 148) (rfl : tables_1_2[148]? = some _))) rfl
theorem gm_340 : (.methodLink RL 101 yL_numbers : Cond) ∈ gG := gm_t (List.mem_append_right _ (List.mem_of_getElem? (i := 149) (rfl : tables_1_2[149]? = some _))) rfl
theorem gm_341 : (.static yL_numbers : Cond) ∈ gG := gm_t (List.mem_append_right _ (List.mem_of_getElem? (i := 150) (rfl : tables_1_2[150]? = some _))) rfl
theorem gm_342 : (.code yL_numbers cL_numbers 3 (some .int) : Cond) ∈ gG := gm_t (List.mem_append_right _ (List.mem_of_getElem? (i := 151) (rfl : tables_1_2[151]? = some _))) rfl
theorem gm_343 : (.methodLink RL 104 yL_copy : Cond) ∈ gG := gm_t (List.mem_append_right _ (List.mem_of_getElem? (i := 152) (rfl : tables_1_2[152]? = some _))) rfl
theorem gm_344 : (.static yL_copy : Cond) ∈ gG := gm_t (List.mem_append_right _ (List.mem_of_getElem? (i := 153) (rfl : tables_1_2[153]? = some _))) rfl
theorem gm_345 : (.code yL_copy cL_copy 3 none : Cond) ∈ gG := gm_t (List.mem_append_right _ (List.mem_of_getElem? (i := 154) (rfl : tables_1_2[154]? = some _))) rfl
theorem gm_346 : (.methodLink RL 64 yL_act : Cond) ∈ gG := gm_t (List.mem_append_right _ (List.mem_of_getElem? (i := 155) (rfl : tables_1_2[155]? = some _))) rfl
theorem gm_347 : (.static yL_act : Cond) ∈ gG := gm_t (List.mem_append_right _ (List.mem_of_getElem? (i := 156) (rfl : tables_1_2[156]? = some _))) rfl
theorem gm_348 : (.code yL_act cL_act 7 (some .boolean) : Cond) ∈ gG := gm_t (List.mem_append_right _ (List.mem_of_getElem? (i := 157) (rfl : tables_1_2[157]? = some _))) rfl
theorem gm_349 : (.constantLong RL 108 (1103515245 : Int64) : Cond) ∈ gG := gm_t (List.mem_append_right _ (List.mem_of_getElem? (i := 158) (rfl : tables_1_2[158]? = some _))) rfl
theorem gm_350 : (.constantLong RL 110 (12345 : Int64) : Cond) ∈ gG := gm_t (List.mem_append_right _ (List.mem_of_getElem? (i := 159) (rfl : tables_1_2[159]? = some _))) rfl
theorem gm_351 : (.constantLong RL 112 (2147483648 : Int64) : Cond) ∈ gG := gm_t (List.mem_append_right _ (List.mem_of_getElem? (i := 160) (rfl : tables_1_2[160]? = some _))) rfl
theorem gm_352 : (.constantLong RL 114 (65536 : Int64) : Cond) ∈ gG := gm_t (List.mem_append_right _ (List.mem_of_getElem? (i := 161) (rfl : tables_1_2[161]? = some _))) rfl
theorem gm_353 : (.arrayClass .long : Cond) ∈ gG := gm_t (List.mem_append_right _ (List.mem_of_getElem? (i := 162) (rfl : tables_1_2[162]? = some _))) rfl
theorem gm_354 : (.fieldLink RJ0 9 "java/lang/String" "value" "[B" : Cond) ∈ gG := gm_t (List.mem_append_right _ (List.mem_of_getElem? (i := 163) (rfl : tables_1_2[163]? = some _))) rfl
theorem gm_355 : (.fieldLink RJ0 15 "java/lang/String" "coder" "B" : Cond) ∈ gG := gm_t (List.mem_append_right _ (List.mem_of_getElem? (i := 164) (rfl : tables_1_2[164]? = some _))) rfl
theorem gm_356 : (.selects RX2 yX2_isHouse yX2_isHouse : Cond) ∈ gG := gm_s (List.mem_of_getElem? (i := 0) (rfl : (k2_sels lw_privs)[0]? = some _)) rfl
theorem gm_357 : (.selects RX2 yX2_numberNow yX2_numberNow : Cond) ∈ gG := gm_s (List.mem_of_getElem? (i := 1) (rfl : (k2_sels lw_privs)[1]? = some _)) rfl
theorem gm_358 : (.selects RX2 yX2_numberAt yX2_numberAt : Cond) ∈ gG := gm_s (List.mem_of_getElem? (i := 2) (rfl : (k2_sels lw_privs)[2]? = some _)) rfl
theorem gm_359 : (.selects RX2 yX2_owedBy yX2_owedBy : Cond) ∈ gG := gm_s (List.mem_of_getElem? (i := 3) (rfl : (k2_sels lw_privs)[3]? = some _)) rfl
theorem gm_360 : (.selects RX2 yX2_houseWith yX2_houseWith : Cond) ∈ gG := gm_s (List.mem_of_getElem? (i := 4) (rfl : (k2_sels lw_privs)[4]? = some _)) rfl
theorem gm_361 : (.selects RX2 yX2_numberOn yX2_numberOn : Cond) ∈ gG := gm_s (List.mem_of_getElem? (i := 5) (rfl : (k2_sels lw_privs)[5]? = some _)) rfl
theorem gm_362 : (.selects RX2 yX2_turnInWalk yX2_turnInWalk : Cond) ∈ gG := gm_s (List.mem_of_getElem? (i := 6) (rfl : (k2_sels lw_privs)[6]? = some _)) rfl
theorem gm_363 : (.selects RX2 yX2_bear yX2_bear : Cond) ∈ gG := gm_s (List.mem_of_getElem? (i := 7) (rfl : (k2_sels lw_privs)[7]? = some _)) rfl
theorem gm_364 : (.selects RX2 yX2_lendsACradle yX2_lendsACradle : Cond) ∈ gG := gm_s (List.mem_of_getElem? (i := 8) (rfl : (k2_sels lw_privs)[8]? = some _)) rfl
theorem gm_365 : (.selects RX2 yX2_growOlder yX2_growOlder : Cond) ∈ gG := gm_s (List.mem_of_getElem? (i := 9) (rfl : (k2_sels lw_privs)[9]? = some _)) rfl
theorem gm_366 : (.selects RX2 yX2_isDay yX2_isDay : Cond) ∈ gG := gm_s (List.mem_of_getElem? (i := 10) (rfl : (k2_sels lw_privs)[10]? = some _)) rfl
theorem gm_367 : (.selects RX2 yX2_lengthOfWalk yX2_lengthOfWalk : Cond) ∈ gG := gm_s (List.mem_of_getElem? (i := 11) (rfl : (k2_sels lw_privs)[11]? = some _)) rfl
theorem gm_368 : (.selects RX2 yX2_houseOfTurn yX2_houseOfTurn : Cond) ∈ gG := gm_s (List.mem_of_getElem? (i := 12) (rfl : (k2_sels lw_privs)[12]? = some _)) rfl
theorem gm_369 : (.selects RX2 yX2_drawnHouse yX2_drawnHouse : Cond) ∈ gG := gm_s (List.mem_of_getElem? (i := 13) (rfl : (k2_sels lw_privs)[13]? = some _)) rfl
theorem gm_370 : (.selects RX2 yX2_bearIfMayBe yX2_bearIfMayBe : Cond) ∈ gG := gm_s (List.mem_of_getElem? (i := 14) (rfl : (k2_sels lw_privs)[14]? = some _)) rfl
theorem gm_371 : (.selects RX2 yX2_allNumbers yX2_allNumbers : Cond) ∈ gG := gm_s (List.mem_of_getElem? (i := 15) (rfl : (k2_sels lw_privs)[15]? = some _)) rfl
theorem gm_372 : (.selects RX2 yX2_unlikeNumbers yX2_unlikeNumbers : Cond) ∈ gG := gm_s (List.mem_of_getElem? (i := 16) (rfl : (k2_sels lw_privs)[16]? = some _)) rfl
theorem gm_373 : (.selects RX2 yX2_owedByAll yX2_owedByAll : Cond) ∈ gG := gm_s (List.mem_of_getElem? (i := 17) (rfl : (k2_sels lw_privs)[17]? = some _)) rfl
theorem gm_374 : (.selects RX2 yX2_housesOnPage yX2_housesOnPage : Cond) ∈ gG := gm_s (List.mem_of_getElem? (i := 18) (rfl : (k2_sels lw_privs)[18]? = some _)) rfl
theorem us_X0 : ∀ w ∈ u_ws RX0 TX0 11, w ∈ gG := by
  intro w hw
  obtain ⟨k, hk, rfl⟩ := List.mem_map.mp hw
  have hk := List.mem_range.mp hk
  match k, hk with
  | 0, _ => exact gm_55
  | 1, _ => exact gm_56
  | 2, _ => exact gm_57
  | 3, _ => exact gm_58
  | 4, _ => exact gm_59
  | 5, _ => exact gm_60
  | 6, _ => exact gm_61
  | 7, _ => exact gm_62
  | 8, _ => exact gm_63
  | 9, _ => exact gm_64
  | 10, _ => exact gm_65
  | k + 11, h => exact absurd h (by omega)
theorem us_X1 : ∀ w ∈ u_ws RX1 TX1 1, w ∈ gG := by
  intro w hw
  obtain ⟨k, hk, rfl⟩ := List.mem_map.mp hw
  have hk := List.mem_range.mp hk
  match k, hk with
  | 0, _ => exact gm_25
  | k + 1, h => exact absurd h (by omega)
theorem us_X2 : ∀ w ∈ u_ws RX2 TX2 11, w ∈ gG := by
  intro w hw
  obtain ⟨k, hk, rfl⟩ := List.mem_map.mp hw
  have hk := List.mem_range.mp hk
  match k, hk with
  | 0, _ => exact gm_77
  | 1, _ => exact gm_78
  | 2, _ => exact gm_79
  | 3, _ => exact gm_80
  | 4, _ => exact gm_81
  | 5, _ => exact gm_82
  | 6, _ => exact gm_83
  | 7, _ => exact gm_84
  | 8, _ => exact gm_85
  | 9, _ => exact gm_86
  | 10, _ => exact gm_87
  | k + 11, h => exact absurd h (by omega)
theorem us_X3 : ∀ w ∈ u_ws RX3 TX3 0, w ∈ gG := by
  intro w hw
  obtain ⟨k, hk, rfl⟩ := List.mem_map.mp hw
  have hk := List.mem_range.mp hk
  match k, hk with
  | k + 0, h => exact absurd h (by omega)
end
section
theorem dX0_init_0 : decode cX0_init 0 = .ok (.aload_n 0, 1) := by decide +kernel
theorem dX0_init_1 : decode cX0_init 1 = .ok (.invokespecial 3, 3) := by decide +kernel
theorem dX0_init_4 : decode cX0_init 4 = .ok (.aload_n 0, 1) := by decide +kernel
theorem dX0_init_5 : decode cX0_init 5 = .ok (.iconst 0, 1) := by decide +kernel
theorem dX0_init_6 : decode cX0_init 6 = .ok (.putfield 9, 3) := by decide +kernel
theorem dX0_init_9 : decode cX0_init 9 = .ok (.aload_n 0, 1) := by decide +kernel
theorem dX0_init_10 : decode cX0_init 10 = .ok (.iconst 0, 1) := by decide +kernel
theorem dX0_init_11 : decode cX0_init 11 = .ok (.putfield 15, 3) := by decide +kernel
theorem dX0_init_14 : decode cX0_init 14 = .ok (.aload_n 0, 1) := by decide +kernel
theorem dX0_init_15 : decode cX0_init 15 = .ok (.iconst 0, 1) := by decide +kernel
theorem dX0_init_16 : decode cX0_init 16 = .ok (.putfield 18, 3) := by decide +kernel
theorem dX0_init_19 : decode cX0_init 19 = .ok (.aload_n 0, 1) := by decide +kernel
theorem dX0_init_20 : decode cX0_init 20 = .ok (.iconst 0, 1) := by decide +kernel
theorem dX0_init_21 : decode cX0_init 21 = .ok (.putfield 21, 3) := by decide +kernel
theorem dX0_init_24 : decode cX0_init 24 = .ok (.aload_n 0, 1) := by decide +kernel
theorem dX0_init_25 : decode cX0_init 25 = .ok (.new 24, 3) := by decide +kernel
theorem dX0_init_28 : decode cX0_init 28 = .ok (.dup, 1) := by decide +kernel
theorem dX0_init_29 : decode cX0_init 29 = .ok (.bipush 6, 2) := by decide +kernel
theorem dX0_init_31 : decode cX0_init 31 = .ok (.invokespecial 26, 3) := by decide +kernel
theorem dX0_init_34 : decode cX0_init 34 = .ok (.putfield 29, 3) := by decide +kernel
theorem dX0_init_37 : decode cX0_init 37 = .ok (.aload_n 0, 1) := by decide +kernel
theorem dX0_init_38 : decode cX0_init 38 = .ok (.new 24, 3) := by decide +kernel
theorem dX0_init_41 : decode cX0_init 41 = .ok (.dup, 1) := by decide +kernel
theorem dX0_init_42 : decode cX0_init 42 = .ok (.sipush 180, 3) := by decide +kernel
theorem dX0_init_45 : decode cX0_init 45 = .ok (.invokespecial 26, 3) := by decide +kernel
theorem dX0_init_48 : decode cX0_init 48 = .ok (.putfield 33, 3) := by decide +kernel
theorem dX0_init_51 : decode cX0_init 51 = .ok (.aload_n 0, 1) := by decide +kernel
theorem dX0_init_52 : decode cX0_init 52 = .ok (.new 24, 3) := by decide +kernel
theorem dX0_init_55 : decode cX0_init 55 = .ok (.dup, 1) := by decide +kernel
theorem dX0_init_56 : decode cX0_init 56 = .ok (.bipush 6, 2) := by decide +kernel
theorem dX0_init_58 : decode cX0_init 58 = .ok (.invokespecial 26, 3) := by decide +kernel
theorem dX0_init_61 : decode cX0_init 61 = .ok (.putfield 36, 3) := by decide +kernel
theorem dX0_init_64 : decode cX0_init 64 = .ok (.aload_n 0, 1) := by decide +kernel
theorem dX0_init_65 : decode cX0_init 65 = .ok (.new 24, 3) := by decide +kernel
theorem dX0_init_68 : decode cX0_init 68 = .ok (.dup, 1) := by decide +kernel
theorem dX0_init_69 : decode cX0_init 69 = .ok (.bipush 6, 2) := by decide +kernel
theorem dX0_init_71 : decode cX0_init 71 = .ok (.invokespecial 26, 3) := by decide +kernel
theorem dX0_init_74 : decode cX0_init 74 = .ok (.putfield 39, 3) := by decide +kernel
theorem dX0_init_77 : decode cX0_init 77 = .ok (.aload_n 0, 1) := by decide +kernel
theorem dX0_init_78 : decode cX0_init 78 = .ok (.new 24, 3) := by decide +kernel
theorem dX0_init_81 : decode cX0_init 81 = .ok (.dup, 1) := by decide +kernel
theorem dX0_init_82 : decode cX0_init 82 = .ok (.bipush 6, 2) := by decide +kernel
theorem dX0_init_84 : decode cX0_init 84 = .ok (.invokespecial 26, 3) := by decide +kernel
theorem dX0_init_87 : decode cX0_init 87 = .ok (.putfield 42, 3) := by decide +kernel
theorem dX0_init_90 : decode cX0_init 90 = .ok (.aload_n 0, 1) := by decide +kernel
theorem dX0_init_91 : decode cX0_init 91 = .ok (.new 24, 3) := by decide +kernel
theorem dX0_init_94 : decode cX0_init 94 = .ok (.dup, 1) := by decide +kernel
theorem dX0_init_95 : decode cX0_init 95 = .ok (.bipush 6, 2) := by decide +kernel
theorem dX0_init_97 : decode cX0_init 97 = .ok (.invokespecial 26, 3) := by decide +kernel
theorem dX0_init_100 : decode cX0_init 100 = .ok (.putfield 45, 3) := by decide +kernel
theorem dX0_init_103 : decode cX0_init 103 = .ok (.aload_n 0, 1) := by decide +kernel
theorem dX0_init_104 : decode cX0_init 104 = .ok (.new 24, 3) := by decide +kernel
theorem dX0_init_107 : decode cX0_init 107 = .ok (.dup, 1) := by decide +kernel
theorem dX0_init_108 : decode cX0_init 108 = .ok (.bipush 6, 2) := by decide +kernel
theorem dX0_init_110 : decode cX0_init 110 = .ok (.invokespecial 26, 3) := by decide +kernel
theorem dX0_init_113 : decode cX0_init 113 = .ok (.putfield 48, 3) := by decide +kernel
theorem dX0_init_116 : decode cX0_init 116 = .ok (.return_, 1) := by decide +kernel
theorem dX0_startAnew_0 : decode cX0_startAnew 0 = .ok (.aload_n 0, 1) := by decide +kernel
theorem dX0_startAnew_1 : decode cX0_startAnew 1 = .ok (.iconst 0, 1) := by decide +kernel
theorem dX0_startAnew_2 : decode cX0_startAnew 2 = .ok (.putfield 9, 3) := by decide +kernel
theorem dX0_startAnew_5 : decode cX0_startAnew 5 = .ok (.aload_n 0, 1) := by decide +kernel
theorem dX0_startAnew_6 : decode cX0_startAnew 6 = .ok (.iconst 0, 1) := by decide +kernel
theorem dX0_startAnew_7 : decode cX0_startAnew 7 = .ok (.putfield 15, 3) := by decide +kernel
theorem dX0_startAnew_10 : decode cX0_startAnew 10 = .ok (.aload_n 0, 1) := by decide +kernel
theorem dX0_startAnew_11 : decode cX0_startAnew 11 = .ok (.iconst 0, 1) := by decide +kernel
theorem dX0_startAnew_12 : decode cX0_startAnew 12 = .ok (.putfield 18, 3) := by decide +kernel
theorem dX0_startAnew_15 : decode cX0_startAnew 15 = .ok (.aload_n 0, 1) := by decide +kernel
theorem dX0_startAnew_16 : decode cX0_startAnew 16 = .ok (.iconst 0, 1) := by decide +kernel
theorem dX0_startAnew_17 : decode cX0_startAnew 17 = .ok (.putfield 21, 3) := by decide +kernel
theorem dX0_startAnew_20 : decode cX0_startAnew 20 = .ok (.aload_n 0, 1) := by decide +kernel
theorem dX0_startAnew_21 : decode cX0_startAnew 21 = .ok (.getfield 36, 3) := by decide +kernel
theorem dX0_startAnew_24 : decode cX0_startAnew 24 = .ok (.invokevirtual 51, 3) := by decide +kernel
theorem dX0_startAnew_27 : decode cX0_startAnew 27 = .ok (.return_, 1) := by decide +kernel
theorem dX1_init_0 : decode cX1_init 0 = .ok (.aload_n 0, 1) := by decide +kernel
theorem dX1_init_1 : decode cX1_init 1 = .ok (.invokespecial 1, 3) := by decide +kernel
theorem dX1_init_4 : decode cX1_init 4 = .ok (.aload_n 0, 1) := by decide +kernel
theorem dX1_init_5 : decode cX1_init 5 = .ok (.iload_n 1, 1) := by decide +kernel
theorem dX1_init_6 : decode cX1_init 6 = .ok (.ifCond .ge 7, 3) := by decide +kernel
theorem dX1_init_9 : decode cX1_init 9 = .ok (.iconst 0, 1) := by decide +kernel
theorem dX1_init_10 : decode cX1_init 10 = .ok (.goto 4, 3) := by decide +kernel
theorem dX1_init_13 : decode cX1_init 13 = .ok (.iload_n 1, 1) := by decide +kernel
theorem dX1_init_14 : decode cX1_init 14 = .ok (.newarray .int, 2) := by decide +kernel
theorem dX1_init_16 : decode cX1_init 16 = .ok (.putfield 7, 3) := by decide +kernel
theorem dX1_init_19 : decode cX1_init 19 = .ok (.return_, 1) := by decide +kernel
theorem dX1_at_0 : decode cX1_at 0 = .ok (.iload_n 1, 1) := by decide +kernel
theorem dX1_at_1 : decode cX1_at 1 = .ok (.ifCond .lt 21, 3) := by decide +kernel
theorem dX1_at_4 : decode cX1_at 4 = .ok (.iload_n 1, 1) := by decide +kernel
theorem dX1_at_5 : decode cX1_at 5 = .ok (.aload_n 0, 1) := by decide +kernel
theorem dX1_at_6 : decode cX1_at 6 = .ok (.getfield 7, 3) := by decide +kernel
theorem dX1_at_9 : decode cX1_at 9 = .ok (.arraylength, 1) := by decide +kernel
theorem dX1_at_10 : decode cX1_at 10 = .ok (.if_icmp .ge 12, 3) := by decide +kernel
theorem dX1_at_13 : decode cX1_at 13 = .ok (.aload_n 0, 1) := by decide +kernel
theorem dX1_at_14 : decode cX1_at 14 = .ok (.getfield 7, 3) := by decide +kernel
theorem dX1_at_17 : decode cX1_at 17 = .ok (.iload_n 1, 1) := by decide +kernel
theorem dX1_at_18 : decode cX1_at 18 = .ok (.iaload, 1) := by decide +kernel
theorem dX1_at_19 : decode cX1_at 19 = .ok (.goto 4, 3) := by decide +kernel
theorem dX1_at_22 : decode cX1_at 22 = .ok (.iconst 0, 1) := by decide +kernel
theorem dX1_at_23 : decode cX1_at 23 = .ok (.ireturn, 1) := by decide +kernel
theorem dX1_put_0 : decode cX1_put 0 = .ok (.iload_n 1, 1) := by decide +kernel
theorem dX1_put_1 : decode cX1_put 1 = .ok (.ifCond .lt 19, 3) := by decide +kernel
theorem dX1_put_4 : decode cX1_put 4 = .ok (.iload_n 1, 1) := by decide +kernel
theorem dX1_put_5 : decode cX1_put 5 = .ok (.aload_n 0, 1) := by decide +kernel
theorem dX1_put_6 : decode cX1_put 6 = .ok (.getfield 7, 3) := by decide +kernel
theorem dX1_put_9 : decode cX1_put 9 = .ok (.arraylength, 1) := by decide +kernel
theorem dX1_put_10 : decode cX1_put 10 = .ok (.if_icmp .ge 10, 3) := by decide +kernel
theorem dX1_put_13 : decode cX1_put 13 = .ok (.aload_n 0, 1) := by decide +kernel
theorem dX1_put_14 : decode cX1_put 14 = .ok (.getfield 7, 3) := by decide +kernel
theorem dX1_put_17 : decode cX1_put 17 = .ok (.iload_n 1, 1) := by decide +kernel
theorem dX1_put_18 : decode cX1_put 18 = .ok (.iload_n 2, 1) := by decide +kernel
theorem dX1_put_19 : decode cX1_put 19 = .ok (.iastore, 1) := by decide +kernel
theorem dX1_put_20 : decode cX1_put 20 = .ok (.return_, 1) := by decide +kernel
theorem dX1_add_0 : decode cX1_add 0 = .ok (.aload_n 0, 1) := by decide +kernel
theorem dX1_add_1 : decode cX1_add 1 = .ok (.iload_n 1, 1) := by decide +kernel
theorem dX1_add_2 : decode cX1_add 2 = .ok (.aload_n 0, 1) := by decide +kernel
theorem dX1_add_3 : decode cX1_add 3 = .ok (.iload_n 1, 1) := by decide +kernel
theorem dX1_add_4 : decode cX1_add 4 = .ok (.invokevirtual 13, 3) := by decide +kernel
theorem dX1_add_7 : decode cX1_add 7 = .ok (.iload_n 2, 1) := by decide +kernel
theorem dX1_add_8 : decode cX1_add 8 = .ok (.iadd, 1) := by decide +kernel
theorem dX1_add_9 : decode cX1_add 9 = .ok (.invokevirtual 17, 3) := by decide +kernel
theorem dX1_add_12 : decode cX1_add 12 = .ok (.return_, 1) := by decide +kernel
theorem dX1_clear_0 : decode cX1_clear 0 = .ok (.iconst 0, 1) := by decide +kernel
theorem dX1_clear_1 : decode cX1_clear 1 = .ok (.istore_n 1, 1) := by decide +kernel
theorem dX1_clear_2 : decode cX1_clear 2 = .ok (.iload_n 1, 1) := by decide +kernel
theorem dX1_clear_3 : decode cX1_clear 3 = .ok (.aload_n 0, 1) := by decide +kernel
theorem dX1_clear_4 : decode cX1_clear 4 = .ok (.getfield 7, 3) := by decide +kernel
theorem dX1_clear_7 : decode cX1_clear 7 = .ok (.arraylength, 1) := by decide +kernel
theorem dX1_clear_8 : decode cX1_clear 8 = .ok (.if_icmp .ge 16, 3) := by decide +kernel
theorem dX1_clear_11 : decode cX1_clear 11 = .ok (.aload_n 0, 1) := by decide +kernel
theorem dX1_clear_12 : decode cX1_clear 12 = .ok (.getfield 7, 3) := by decide +kernel
theorem dX1_clear_15 : decode cX1_clear 15 = .ok (.iload_n 1, 1) := by decide +kernel
theorem dX1_clear_16 : decode cX1_clear 16 = .ok (.iconst 0, 1) := by decide +kernel
theorem dX1_clear_17 : decode cX1_clear 17 = .ok (.iastore, 1) := by decide +kernel
theorem dX1_clear_18 : decode cX1_clear 18 = .ok (.iinc 1 1, 3) := by decide +kernel
theorem dX1_clear_21 : decode cX1_clear 21 = .ok (.goto (-19), 3) := by decide +kernel
theorem dX1_clear_24 : decode cX1_clear 24 = .ok (.return_, 1) := by decide +kernel
theorem dX1_take_0 : decode cX1_take 0 = .ok (.iconst 0, 1) := by decide +kernel
theorem dX1_take_1 : decode cX1_take 1 = .ok (.istore_n 2, 1) := by decide +kernel
theorem dX1_take_2 : decode cX1_take 2 = .ok (.iload_n 2, 1) := by decide +kernel
theorem dX1_take_3 : decode cX1_take 3 = .ok (.aload_n 0, 1) := by decide +kernel
theorem dX1_take_4 : decode cX1_take 4 = .ok (.getfield 7, 3) := by decide +kernel
theorem dX1_take_7 : decode cX1_take 7 = .ok (.arraylength, 1) := by decide +kernel
theorem dX1_take_8 : decode cX1_take 8 = .ok (.if_icmp .ge 20, 3) := by decide +kernel
theorem dX1_take_11 : decode cX1_take 11 = .ok (.aload_n 0, 1) := by decide +kernel
theorem dX1_take_12 : decode cX1_take 12 = .ok (.getfield 7, 3) := by decide +kernel
theorem dX1_take_15 : decode cX1_take 15 = .ok (.iload_n 2, 1) := by decide +kernel
theorem dX1_take_16 : decode cX1_take 16 = .ok (.aload_n 1, 1) := by decide +kernel
theorem dX1_take_17 : decode cX1_take 17 = .ok (.iload_n 2, 1) := by decide +kernel
theorem dX1_take_18 : decode cX1_take 18 = .ok (.invokevirtual 13, 3) := by decide +kernel
theorem dX1_take_21 : decode cX1_take 21 = .ok (.iastore, 1) := by decide +kernel
theorem dX1_take_22 : decode cX1_take 22 = .ok (.iinc 2 1, 3) := by decide +kernel
theorem dX1_take_25 : decode cX1_take 25 = .ok (.goto (-23), 3) := by decide +kernel
theorem dX1_take_28 : decode cX1_take 28 = .ok (.return_, 1) := by decide +kernel
theorem dX2_init_0 : decode cX2_init 0 = .ok (.aload_n 0, 1) := by decide +kernel
theorem dX2_init_1 : decode cX2_init 1 = .ok (.invokespecial 3, 3) := by decide +kernel
theorem dX2_init_4 : decode cX2_init 4 = .ok (.aload_n 0, 1) := by decide +kernel
theorem dX2_init_5 : decode cX2_init 5 = .ok (.new 9, 3) := by decide +kernel
theorem dX2_init_8 : decode cX2_init 8 = .ok (.dup, 1) := by decide +kernel
theorem dX2_init_9 : decode cX2_init 9 = .ok (.bipush 19, 2) := by decide +kernel
theorem dX2_init_11 : decode cX2_init 11 = .ok (.invokespecial 11, 3) := by decide +kernel
theorem dX2_init_14 : decode cX2_init 14 = .ok (.putfield 14, 3) := by decide +kernel
theorem dX2_init_17 : decode cX2_init 17 = .ok (.aload_n 0, 1) := by decide +kernel
theorem dX2_init_18 : decode cX2_init 18 = .ok (.iconst 0, 1) := by decide +kernel
theorem dX2_init_19 : decode cX2_init 19 = .ok (.putfield 18, 3) := by decide +kernel
theorem dX2_init_22 : decode cX2_init 22 = .ok (.aload_n 0, 1) := by decide +kernel
theorem dX2_init_23 : decode cX2_init 23 = .ok (.iconst 0, 1) := by decide +kernel
theorem dX2_init_24 : decode cX2_init 24 = .ok (.putfield 22, 3) := by decide +kernel
theorem dX2_init_27 : decode cX2_init 27 = .ok (.aload_n 0, 1) := by decide +kernel
theorem dX2_init_28 : decode cX2_init 28 = .ok (.iconst 0, 1) := by decide +kernel
theorem dX2_init_29 : decode cX2_init 29 = .ok (.putfield 25, 3) := by decide +kernel
theorem dX2_init_32 : decode cX2_init 32 = .ok (.aload_n 0, 1) := by decide +kernel
theorem dX2_init_33 : decode cX2_init 33 = .ok (.new 9, 3) := by decide +kernel
theorem dX2_init_36 : decode cX2_init 36 = .ok (.dup, 1) := by decide +kernel
theorem dX2_init_37 : decode cX2_init 37 = .ok (.bipush 6, 2) := by decide +kernel
theorem dX2_init_39 : decode cX2_init 39 = .ok (.invokespecial 11, 3) := by decide +kernel
theorem dX2_init_42 : decode cX2_init 42 = .ok (.putfield 28, 3) := by decide +kernel
theorem dX2_init_45 : decode cX2_init 45 = .ok (.aload_n 0, 1) := by decide +kernel
theorem dX2_init_46 : decode cX2_init 46 = .ok (.new 31, 3) := by decide +kernel
theorem dX2_init_49 : decode cX2_init 49 = .ok (.dup, 1) := by decide +kernel
theorem dX2_init_50 : decode cX2_init 50 = .ok (.invokespecial 33, 3) := by decide +kernel
theorem dX2_init_53 : decode cX2_init 53 = .ok (.putfield 34, 3) := by decide +kernel
theorem dX2_init_56 : decode cX2_init 56 = .ok (.aload_n 0, 1) := by decide +kernel
theorem dX2_init_57 : decode cX2_init 57 = .ok (.new 31, 3) := by decide +kernel
theorem dX2_init_60 : decode cX2_init 60 = .ok (.dup, 1) := by decide +kernel
theorem dX2_init_61 : decode cX2_init 61 = .ok (.invokespecial 33, 3) := by decide +kernel
theorem dX2_init_64 : decode cX2_init 64 = .ok (.putfield 38, 3) := by decide +kernel
theorem dX2_init_67 : decode cX2_init 67 = .ok (.aload_n 0, 1) := by decide +kernel
theorem dX2_init_68 : decode cX2_init 68 = .ok (.iconst 0, 1) := by decide +kernel
theorem dX2_init_69 : decode cX2_init 69 = .ok (.putfield 41, 3) := by decide +kernel
theorem dX2_init_72 : decode cX2_init 72 = .ok (.aload_n 0, 1) := by decide +kernel
theorem dX2_init_73 : decode cX2_init 73 = .ok (.new 9, 3) := by decide +kernel
theorem dX2_init_76 : decode cX2_init 76 = .ok (.dup, 1) := by decide +kernel
theorem dX2_init_77 : decode cX2_init 77 = .ok (.bipush 6, 2) := by decide +kernel
theorem dX2_init_79 : decode cX2_init 79 = .ok (.invokespecial 11, 3) := by decide +kernel
theorem dX2_init_82 : decode cX2_init 82 = .ok (.putfield 45, 3) := by decide +kernel
theorem dX2_init_85 : decode cX2_init 85 = .ok (.aload_n 0, 1) := by decide +kernel
theorem dX2_init_86 : decode cX2_init 86 = .ok (.new 9, 3) := by decide +kernel
theorem dX2_init_89 : decode cX2_init 89 = .ok (.dup, 1) := by decide +kernel
theorem dX2_init_90 : decode cX2_init 90 = .ok (.bipush 31, 2) := by decide +kernel
theorem dX2_init_92 : decode cX2_init 92 = .ok (.invokespecial 11, 3) := by decide +kernel
theorem dX2_init_95 : decode cX2_init 95 = .ok (.putfield 48, 3) := by decide +kernel
theorem dX2_init_98 : decode cX2_init 98 = .ok (.aload_n 0, 1) := by decide +kernel
theorem dX2_init_99 : decode cX2_init 99 = .ok (.new 9, 3) := by decide +kernel
theorem dX2_init_102 : decode cX2_init 102 = .ok (.dup, 1) := by decide +kernel
theorem dX2_init_103 : decode cX2_init 103 = .ok (.bipush 40, 2) := by decide +kernel
theorem dX2_init_105 : decode cX2_init 105 = .ok (.invokespecial 11, 3) := by decide +kernel
theorem dX2_init_108 : decode cX2_init 108 = .ok (.putfield 51, 3) := by decide +kernel
theorem dX2_init_111 : decode cX2_init 111 = .ok (.return_, 1) := by decide +kernel
theorem dX2_letter_0 : decode cX2_letter 0 = .ok (.iload_n 1, 1) := by decide +kernel
theorem dX2_letter_1 : decode cX2_letter 1 = .ok (.bipush 32, 2) := by decide +kernel
theorem dX2_letter_3 : decode cX2_letter 3 = .ok (.if_icmp .lt 9, 3) := by decide +kernel
theorem dX2_letter_6 : decode cX2_letter 6 = .ok (.iload_n 1, 1) := by decide +kernel
theorem dX2_letter_7 : decode cX2_letter 7 = .ok (.bipush 126, 2) := by decide +kernel
theorem dX2_letter_9 : decode cX2_letter 9 = .ok (.if_icmp .le 6, 3) := by decide +kernel
theorem dX2_letter_12 : decode cX2_letter 12 = .ok (.bipush (-102), 2) := by decide +kernel
theorem dX2_letter_14 : decode cX2_letter 14 = .ok (.ireturn, 1) := by decide +kernel
theorem dX2_letter_15 : decode cX2_letter 15 = .ok (.aload_n 0, 1) := by decide +kernel
theorem dX2_letter_16 : decode cX2_letter 16 = .ok (.getfield 18, 3) := by decide +kernel
theorem dX2_letter_19 : decode cX2_letter 19 = .ok (.bipush 19, 2) := by decide +kernel
theorem dX2_letter_21 : decode cX2_letter 21 = .ok (.if_icmp .lt 6, 3) := by decide +kernel
theorem dX2_letter_24 : decode cX2_letter 24 = .ok (.bipush (-104), 2) := by decide +kernel
theorem dX2_letter_26 : decode cX2_letter 26 = .ok (.ireturn, 1) := by decide +kernel
theorem dX2_letter_27 : decode cX2_letter 27 = .ok (.aload_n 0, 1) := by decide +kernel
theorem dX2_letter_28 : decode cX2_letter 28 = .ok (.getfield 14, 3) := by decide +kernel
theorem dX2_letter_31 : decode cX2_letter 31 = .ok (.aload_n 0, 1) := by decide +kernel
theorem dX2_letter_32 : decode cX2_letter 32 = .ok (.getfield 18, 3) := by decide +kernel
theorem dX2_letter_35 : decode cX2_letter 35 = .ok (.iload_n 1, 1) := by decide +kernel
theorem dX2_letter_36 : decode cX2_letter 36 = .ok (.invokevirtual 54, 3) := by decide +kernel
theorem dX2_letter_39 : decode cX2_letter 39 = .ok (.aload_n 0, 1) := by decide +kernel
theorem dX2_letter_40 : decode cX2_letter 40 = .ok (.dup, 1) := by decide +kernel
theorem dX2_letter_41 : decode cX2_letter 41 = .ok (.getfield 18, 3) := by decide +kernel
theorem dX2_letter_44 : decode cX2_letter 44 = .ok (.iconst 1, 1) := by decide +kernel
theorem dX2_letter_45 : decode cX2_letter 45 = .ok (.iadd, 1) := by decide +kernel
theorem dX2_letter_46 : decode cX2_letter 46 = .ok (.putfield 18, 3) := by decide +kernel
theorem dX2_letter_49 : decode cX2_letter 49 = .ok (.aload_n 0, 1) := by decide +kernel
theorem dX2_letter_50 : decode cX2_letter 50 = .ok (.getfield 18, 3) := by decide +kernel
theorem dX2_letter_53 : decode cX2_letter 53 = .ok (.ireturn, 1) := by decide +kernel
theorem dX2_fault_0 : decode cX2_fault 0 = .ok (.iconst 0, 1) := by decide +kernel
theorem dX2_fault_1 : decode cX2_fault 1 = .ok (.istore_n 1, 1) := by decide +kernel
theorem dX2_fault_2 : decode cX2_fault 2 = .ok (.iload_n 1, 1) := by decide +kernel
theorem dX2_fault_3 : decode cX2_fault 3 = .ok (.aload_n 0, 1) := by decide +kernel
theorem dX2_fault_4 : decode cX2_fault 4 = .ok (.getfield 18, 3) := by decide +kernel
theorem dX2_fault_7 : decode cX2_fault 7 = .ok (.if_icmp .ge 26, 3) := by decide +kernel
theorem dX2_fault_10 : decode cX2_fault 10 = .ok (.iload_n 1, 1) := by decide +kernel
theorem dX2_fault_11 : decode cX2_fault 11 = .ok (.aload_n 0, 1) := by decide +kernel
theorem dX2_fault_12 : decode cX2_fault 12 = .ok (.getfield 14, 3) := by decide +kernel
theorem dX2_fault_15 : decode cX2_fault 15 = .ok (.iload_n 1, 1) := by decide +kernel
theorem dX2_fault_16 : decode cX2_fault 16 = .ok (.invokevirtual 58, 3) := by decide +kernel
theorem dX2_fault_19 : decode cX2_fault 19 = .ok (.invokestatic 62, 3) := by decide +kernel
theorem dX2_fault_22 : decode cX2_fault 22 = .ok (.ifCond .ne 5, 3) := by decide +kernel
theorem dX2_fault_25 : decode cX2_fault 25 = .ok (.iload_n 1, 1) := by decide +kernel
theorem dX2_fault_26 : decode cX2_fault 26 = .ok (.ireturn, 1) := by decide +kernel
theorem dX2_fault_27 : decode cX2_fault 27 = .ok (.iinc 1 1, 3) := by decide +kernel
theorem dX2_fault_30 : decode cX2_fault 30 = .ok (.goto (-28), 3) := by decide +kernel
theorem dX2_fault_33 : decode cX2_fault 33 = .ok (.aload_n 0, 1) := by decide +kernel
theorem dX2_fault_34 : decode cX2_fault 34 = .ok (.getfield 18, 3) := by decide +kernel
theorem dX2_fault_37 : decode cX2_fault 37 = .ok (.ireturn, 1) := by decide +kernel
theorem dX2_street_0 : decode cX2_street 0 = .ok (.aload_n 0, 1) := by decide +kernel
theorem dX2_street_1 : decode cX2_street 1 = .ok (.invokevirtual 66, 3) := by decide +kernel
theorem dX2_street_4 : decode cX2_street 4 = .ok (.istore_n 1, 1) := by decide +kernel
theorem dX2_street_5 : decode cX2_street 5 = .ok (.iload_n 1, 1) := by decide +kernel
theorem dX2_street_6 : decode cX2_street 6 = .ok (.iconst 2, 1) := by decide +kernel
theorem dX2_street_7 : decode cX2_street 7 = .ok (.if_icmp .ge 6, 3) := by decide +kernel
theorem dX2_street_10 : decode cX2_street 10 = .ok (.bipush (-103), 2) := by decide +kernel
theorem dX2_street_12 : decode cX2_street 12 = .ok (.ireturn, 1) := by decide +kernel
theorem dX2_street_13 : decode cX2_street 13 = .ok (.aload_n 0, 1) := by decide +kernel
theorem dX2_street_14 : decode cX2_street 14 = .ok (.iload_n 1, 1) := by decide +kernel
theorem dX2_street_15 : decode cX2_street 15 = .ok (.putfield 22, 3) := by decide +kernel
theorem dX2_street_18 : decode cX2_street 18 = .ok (.aload_n 0, 1) := by decide +kernel
theorem dX2_street_19 : decode cX2_street 19 = .ok (.getfield 34, 3) := by decide +kernel
theorem dX2_street_22 : decode cX2_street 22 = .ok (.invokevirtual 70, 3) := by decide +kernel
theorem dX2_street_25 : decode cX2_street 25 = .ok (.iconst 0, 1) := by decide +kernel
theorem dX2_street_26 : decode cX2_street 26 = .ok (.istore_n 2, 1) := by decide +kernel
theorem dX2_street_27 : decode cX2_street 27 = .ok (.iload_n 2, 1) := by decide +kernel
theorem dX2_street_28 : decode cX2_street 28 = .ok (.aload_n 0, 1) := by decide +kernel
theorem dX2_street_29 : decode cX2_street 29 = .ok (.getfield 22, 3) := by decide +kernel
theorem dX2_street_32 : decode cX2_street 32 = .ok (.if_icmp .ge 56, 3) := by decide +kernel
theorem dX2_street_35 : decode cX2_street 35 = .ok (.iload_n 2, 1) := by decide +kernel
theorem dX2_street_36 : decode cX2_street 36 = .ok (.iconst 3, 1) := by decide +kernel
theorem dX2_street_37 : decode cX2_street 37 = .ok (.imul, 1) := by decide +kernel
theorem dX2_street_38 : decode cX2_street 38 = .ok (.istore_n 3, 1) := by decide +kernel
theorem dX2_street_39 : decode cX2_street 39 = .ok (.aload_n 0, 1) := by decide +kernel
theorem dX2_street_40 : decode cX2_street 40 = .ok (.getfield 28, 3) := by decide +kernel
theorem dX2_street_43 : decode cX2_street 43 = .ok (.iload_n 2, 1) := by decide +kernel
theorem dX2_street_44 : decode cX2_street 44 = .ok (.aload_n 0, 1) := by decide +kernel
theorem dX2_street_45 : decode cX2_street 45 = .ok (.getfield 14, 3) := by decide +kernel
theorem dX2_street_48 : decode cX2_street 48 = .ok (.iload_n 3, 1) := by decide +kernel
theorem dX2_street_49 : decode cX2_street 49 = .ok (.invokevirtual 58, 3) := by decide +kernel
theorem dX2_street_52 : decode cX2_street 52 = .ok (.invokestatic 73, 3) := by decide +kernel
theorem dX2_street_55 : decode cX2_street 55 = .ok (.invokevirtual 54, 3) := by decide +kernel
theorem dX2_street_58 : decode cX2_street 58 = .ok (.aload_n 0, 1) := by decide +kernel
theorem dX2_street_59 : decode cX2_street 59 = .ok (.getfield 34, 3) := by decide +kernel
theorem dX2_street_62 : decode cX2_street 62 = .ok (.getfield 76, 3) := by decide +kernel
theorem dX2_street_65 : decode cX2_street 65 = .ok (.iload_n 2, 1) := by decide +kernel
theorem dX2_street_66 : decode cX2_street 66 = .ok (.aload_n 0, 1) := by decide +kernel
theorem dX2_street_67 : decode cX2_street 67 = .ok (.getfield 14, 3) := by decide +kernel
theorem dX2_street_70 : decode cX2_street 70 = .ok (.iload_n 3, 1) := by decide +kernel
theorem dX2_street_71 : decode cX2_street 71 = .ok (.iconst 1, 1) := by decide +kernel
theorem dX2_street_72 : decode cX2_street 72 = .ok (.iadd, 1) := by decide +kernel
theorem dX2_street_73 : decode cX2_street 73 = .ok (.invokevirtual 58, 3) := by decide +kernel
theorem dX2_street_76 : decode cX2_street 76 = .ok (.bipush 48, 2) := by decide +kernel
theorem dX2_street_78 : decode cX2_street 78 = .ok (.isub, 1) := by decide +kernel
theorem dX2_street_79 : decode cX2_street 79 = .ok (.invokevirtual 54, 3) := by decide +kernel
theorem dX2_street_82 : decode cX2_street 82 = .ok (.iinc 2 1, 3) := by decide +kernel
theorem dX2_street_85 : decode cX2_street 85 = .ok (.goto (-58), 3) := by decide +kernel
theorem dX2_street_88 : decode cX2_street 88 = .ok (.aload_n 0, 1) := by decide +kernel
theorem dX2_street_89 : decode cX2_street 89 = .ok (.iconst 0, 1) := by decide +kernel
theorem dX2_street_90 : decode cX2_street 90 = .ok (.putfield 41, 3) := by decide +kernel
theorem dX2_street_93 : decode cX2_street 93 = .ok (.aload_n 0, 1) := by decide +kernel
theorem dX2_street_94 : decode cX2_street 94 = .ok (.iconst 0, 1) := by decide +kernel
theorem dX2_street_95 : decode cX2_street 95 = .ok (.putfield 18, 3) := by decide +kernel
theorem dX2_street_98 : decode cX2_street 98 = .ok (.aload_n 0, 1) := by decide +kernel
theorem dX2_street_99 : decode cX2_street 99 = .ok (.dup, 1) := by decide +kernel
theorem dX2_street_100 : decode cX2_street 100 = .ok (.getfield 25, 3) := by decide +kernel
theorem dX2_street_103 : decode cX2_street 103 = .ok (.iconst 1, 1) := by decide +kernel
theorem dX2_street_104 : decode cX2_street 104 = .ok (.iadd, 1) := by decide +kernel
theorem dX2_street_105 : decode cX2_street 105 = .ok (.putfield 25, 3) := by decide +kernel
theorem dX2_street_108 : decode cX2_street 108 = .ok (.aload_n 0, 1) := by decide +kernel
theorem dX2_street_109 : decode cX2_street 109 = .ok (.getfield 22, 3) := by decide +kernel
theorem dX2_street_112 : decode cX2_street 112 = .ok (.ireturn, 1) := by decide +kernel
theorem dX2_about_0 : decode cX2_about 0 = .ok (.aload_n 0, 1) := by decide +kernel
theorem dX2_about_1 : decode cX2_about 1 = .ok (.iload_n 1, 1) := by decide +kernel
theorem dX2_about_2 : decode cX2_about 2 = .ok (.invokevirtual 79, 3) := by decide +kernel
theorem dX2_about_5 : decode cX2_about 5 = .ok (.ifCond .ne 6, 3) := by decide +kernel
theorem dX2_about_8 : decode cX2_about 8 = .ok (.bipush (-101), 2) := by decide +kernel
theorem dX2_about_10 : decode cX2_about 10 = .ok (.ireturn, 1) := by decide +kernel
theorem dX2_about_11 : decode cX2_about 11 = .ok (.iload_n 2, 1) := by decide +kernel
theorem dX2_about_12 : decode cX2_about 12 = .ok (.ifCond .lt 8, 3) := by decide +kernel
theorem dX2_about_15 : decode cX2_about 15 = .ok (.iload_n 2, 1) := by decide +kernel
theorem dX2_about_16 : decode cX2_about 16 = .ok (.iconst 5, 1) := by decide +kernel
theorem dX2_about_17 : decode cX2_about 17 = .ok (.if_icmp .le 6, 3) := by decide +kernel
theorem dX2_about_20 : decode cX2_about 20 = .ok (.bipush (-102), 2) := by decide +kernel
theorem dX2_about_22 : decode cX2_about 22 = .ok (.ireturn, 1) := by decide +kernel
theorem dX2_about_23 : decode cX2_about 23 = .ok (.iload_n 2, 1) := by decide +kernel
theorem dX2_about_24 : decode cX2_about 24 = .ok (.tableswitch 81 0 4 #[36, 45, 57, 63, 75], 36) := by decide +kernel
theorem dX2_about_60 : decode cX2_about 60 = .ok (.aload_n 0, 1) := by decide +kernel
theorem dX2_about_61 : decode cX2_about 61 = .ok (.getfield 28, 3) := by decide +kernel
theorem dX2_about_64 : decode cX2_about 64 = .ok (.iload_n 1, 1) := by decide +kernel
theorem dX2_about_65 : decode cX2_about 65 = .ok (.invokevirtual 58, 3) := by decide +kernel
theorem dX2_about_68 : decode cX2_about 68 = .ok (.ireturn, 1) := by decide +kernel
theorem dX2_about_69 : decode cX2_about 69 = .ok (.aload_n 0, 1) := by decide +kernel
theorem dX2_about_70 : decode cX2_about 70 = .ok (.getfield 34, 3) := by decide +kernel
theorem dX2_about_73 : decode cX2_about 73 = .ok (.getfield 76, 3) := by decide +kernel
theorem dX2_about_76 : decode cX2_about 76 = .ok (.iload_n 1, 1) := by decide +kernel
theorem dX2_about_77 : decode cX2_about 77 = .ok (.invokevirtual 58, 3) := by decide +kernel
theorem dX2_about_80 : decode cX2_about 80 = .ok (.ireturn, 1) := by decide +kernel
theorem dX2_about_81 : decode cX2_about 81 = .ok (.aload_n 0, 1) := by decide +kernel
theorem dX2_about_82 : decode cX2_about 82 = .ok (.iload_n 1, 1) := by decide +kernel
theorem dX2_about_83 : decode cX2_about 83 = .ok (.invokevirtual 83, 3) := by decide +kernel
theorem dX2_about_86 : decode cX2_about 86 = .ok (.ireturn, 1) := by decide +kernel
theorem dX2_about_87 : decode cX2_about 87 = .ok (.aload_n 0, 1) := by decide +kernel
theorem dX2_about_88 : decode cX2_about 88 = .ok (.getfield 34, 3) := by decide +kernel
theorem dX2_about_91 : decode cX2_about 91 = .ok (.getfield 86, 3) := by decide +kernel
theorem dX2_about_94 : decode cX2_about 94 = .ok (.iload_n 1, 1) := by decide +kernel
theorem dX2_about_95 : decode cX2_about 95 = .ok (.invokevirtual 58, 3) := by decide +kernel
theorem dX2_about_98 : decode cX2_about 98 = .ok (.ireturn, 1) := by decide +kernel
theorem dX2_about_99 : decode cX2_about 99 = .ok (.aload_n 0, 1) := by decide +kernel
theorem dX2_about_100 : decode cX2_about 100 = .ok (.iload_n 1, 1) := by decide +kernel
theorem dX2_about_101 : decode cX2_about 101 = .ok (.invokevirtual 89, 3) := by decide +kernel
theorem dX2_about_104 : decode cX2_about 104 = .ok (.ireturn, 1) := by decide +kernel
theorem dX2_about_105 : decode cX2_about 105 = .ok (.aload_n 0, 1) := by decide +kernel
theorem dX2_about_106 : decode cX2_about 106 = .ok (.aload_n 0, 1) := by decide +kernel
theorem dX2_about_107 : decode cX2_about 107 = .ok (.getfield 34, 3) := by decide +kernel
theorem dX2_about_110 : decode cX2_about 110 = .ok (.getfield 76, 3) := by decide +kernel
theorem dX2_about_113 : decode cX2_about 113 = .ok (.iload_n 1, 1) := by decide +kernel
theorem dX2_about_114 : decode cX2_about 114 = .ok (.invokevirtual 92, 3) := by decide +kernel
theorem dX2_about_117 : decode cX2_about 117 = .ok (.ireturn, 1) := by decide +kernel
theorem dX2_as_0 : decode cX2_as 0 = .ok (.aload_n 0, 1) := by decide +kernel
theorem dX2_as_1 : decode cX2_as 1 = .ok (.iload_n 1, 1) := by decide +kernel
theorem dX2_as_2 : decode cX2_as 2 = .ok (.invokevirtual 79, 3) := by decide +kernel
theorem dX2_as_5 : decode cX2_as 5 = .ok (.ifCond .ne 6, 3) := by decide +kernel
theorem dX2_as_8 : decode cX2_as 8 = .ok (.bipush (-101), 2) := by decide +kernel
theorem dX2_as_10 : decode cX2_as 10 = .ok (.ireturn, 1) := by decide +kernel
theorem dX2_as_11 : decode cX2_as 11 = .ok (.iload_n 2, 1) := by decide +kernel
theorem dX2_as_12 : decode cX2_as 12 = .ok (.ifCond .lt 8, 3) := by decide +kernel
theorem dX2_as_15 : decode cX2_as 15 = .ok (.iload_n 2, 1) := by decide +kernel
theorem dX2_as_16 : decode cX2_as 16 = .ok (.iconst 4, 1) := by decide +kernel
theorem dX2_as_17 : decode cX2_as 17 = .ok (.if_icmp .le 6, 3) := by decide +kernel
theorem dX2_as_20 : decode cX2_as 20 = .ok (.bipush (-102), 2) := by decide +kernel
theorem dX2_as_22 : decode cX2_as 22 = .ok (.ireturn, 1) := by decide +kernel
theorem dX2_as_23 : decode cX2_as 23 = .ok (.aload_n 0, 1) := by decide +kernel
theorem dX2_as_24 : decode cX2_as 24 = .ok (.getfield 28, 3) := by decide +kernel
theorem dX2_as_27 : decode cX2_as 27 = .ok (.iload_n 1, 1) := by decide +kernel
theorem dX2_as_28 : decode cX2_as 28 = .ok (.invokevirtual 58, 3) := by decide +kernel
theorem dX2_as_31 : decode cX2_as 31 = .ok (.iload_n 2, 1) := by decide +kernel
theorem dX2_as_32 : decode cX2_as 32 = .ok (.invokestatic 96, 3) := by decide +kernel
theorem dX2_as_35 : decode cX2_as 35 = .ok (.ifCond .eq 7, 3) := by decide +kernel
theorem dX2_as_38 : decode cX2_as 38 = .ok (.iload_n 1, 1) := by decide +kernel
theorem dX2_as_39 : decode cX2_as 39 = .ok (.goto 4, 3) := by decide +kernel
theorem dX2_as_42 : decode cX2_as 42 = .ok (.iconst (-1), 1) := by decide +kernel
theorem dX2_as_43 : decode cX2_as 43 = .ok (.ireturn, 1) := by decide +kernel
theorem dX2_birth_0 : decode cX2_birth 0 = .ok (.aload_n 0, 1) := by decide +kernel
theorem dX2_birth_1 : decode cX2_birth 1 = .ok (.iload_n 1, 1) := by decide +kernel
theorem dX2_birth_2 : decode cX2_birth 2 = .ok (.invokevirtual 79, 3) := by decide +kernel
theorem dX2_birth_5 : decode cX2_birth 5 = .ok (.ifCond .ne 6, 3) := by decide +kernel
theorem dX2_birth_8 : decode cX2_birth 8 = .ok (.bipush (-101), 2) := by decide +kernel
theorem dX2_birth_10 : decode cX2_birth 10 = .ok (.ireturn, 1) := by decide +kernel
theorem dX2_birth_11 : decode cX2_birth 11 = .ok (.aload_n 0, 1) := by decide +kernel
theorem dX2_birth_12 : decode cX2_birth 12 = .ok (.getfield 28, 3) := by decide +kernel
theorem dX2_birth_15 : decode cX2_birth 15 = .ok (.iload_n 1, 1) := by decide +kernel
theorem dX2_birth_16 : decode cX2_birth 16 = .ok (.invokevirtual 58, 3) := by decide +kernel
theorem dX2_birth_19 : decode cX2_birth 19 = .ok (.iconst 2, 1) := by decide +kernel
theorem dX2_birth_20 : decode cX2_birth 20 = .ok (.invokestatic 96, 3) := by decide +kernel
theorem dX2_birth_23 : decode cX2_birth 23 = .ok (.ifCond .eq 6, 3) := by decide +kernel
theorem dX2_birth_26 : decode cX2_birth 26 = .ok (.bipush (-103), 2) := by decide +kernel
theorem dX2_birth_28 : decode cX2_birth 28 = .ok (.ireturn, 1) := by decide +kernel
theorem dX2_birth_29 : decode cX2_birth 29 = .ok (.aload_n 0, 1) := by decide +kernel
theorem dX2_birth_30 : decode cX2_birth 30 = .ok (.aload_n 0, 1) := by decide +kernel
theorem dX2_birth_31 : decode cX2_birth 31 = .ok (.getfield 34, 3) := by decide +kernel
theorem dX2_birth_34 : decode cX2_birth 34 = .ok (.getfield 76, 3) := by decide +kernel
theorem dX2_birth_37 : decode cX2_birth 37 = .ok (.iload_n 1, 1) := by decide +kernel
theorem dX2_birth_38 : decode cX2_birth 38 = .ok (.invokevirtual 99, 3) := by decide +kernel
theorem dX2_birth_41 : decode cX2_birth 41 = .ok (.aload_n 0, 1) := by decide +kernel
theorem dX2_birth_42 : decode cX2_birth 42 = .ok (.getfield 34, 3) := by decide +kernel
theorem dX2_birth_45 : decode cX2_birth 45 = .ok (.dup, 1) := by decide +kernel
theorem dX2_birth_46 : decode cX2_birth 46 = .ok (.getfield 103, 3) := by decide +kernel
theorem dX2_birth_49 : decode cX2_birth 49 = .ok (.iconst 1, 1) := by decide +kernel
theorem dX2_birth_50 : decode cX2_birth 50 = .ok (.iadd, 1) := by decide +kernel
theorem dX2_birth_51 : decode cX2_birth 51 = .ok (.putfield 103, 3) := by decide +kernel
theorem dX2_birth_54 : decode cX2_birth 54 = .ok (.aload_n 0, 1) := by decide +kernel
theorem dX2_birth_55 : decode cX2_birth 55 = .ok (.getfield 34, 3) := by decide +kernel
theorem dX2_birth_58 : decode cX2_birth 58 = .ok (.getfield 86, 3) := by decide +kernel
theorem dX2_birth_61 : decode cX2_birth 61 = .ok (.iload_n 1, 1) := by decide +kernel
theorem dX2_birth_62 : decode cX2_birth 62 = .ok (.iconst 1, 1) := by decide +kernel
theorem dX2_birth_63 : decode cX2_birth 63 = .ok (.invokevirtual 106, 3) := by decide +kernel
theorem dX2_birth_66 : decode cX2_birth 66 = .ok (.aload_n 0, 1) := by decide +kernel
theorem dX2_birth_67 : decode cX2_birth 67 = .ok (.iload_n 1, 1) := by decide +kernel
theorem dX2_birth_68 : decode cX2_birth 68 = .ok (.invokevirtual 109, 3) := by decide +kernel
theorem dX2_birth_71 : decode cX2_birth 71 = .ok (.ifCond .ne 5, 3) := by decide +kernel
theorem dX2_birth_74 : decode cX2_birth 74 = .ok (.iconst 1, 1) := by decide +kernel
theorem dX2_birth_75 : decode cX2_birth 75 = .ok (.ireturn, 1) := by decide +kernel
theorem dX2_birth_76 : decode cX2_birth 76 = .ok (.aload_n 0, 1) := by decide +kernel
theorem dX2_birth_77 : decode cX2_birth 77 = .ok (.getfield 34, 3) := by decide +kernel
theorem dX2_birth_80 : decode cX2_birth 80 = .ok (.getfield 86, 3) := by decide +kernel
theorem dX2_birth_83 : decode cX2_birth 83 = .ok (.iload_n 1, 1) := by decide +kernel
theorem dX2_birth_84 : decode cX2_birth 84 = .ok (.iconst 1, 1) := by decide +kernel
theorem dX2_birth_85 : decode cX2_birth 85 = .ok (.iadd, 1) := by decide +kernel
theorem dX2_birth_86 : decode cX2_birth 86 = .ok (.iconst 1, 1) := by decide +kernel
theorem dX2_birth_87 : decode cX2_birth 87 = .ok (.invokevirtual 106, 3) := by decide +kernel
theorem dX2_birth_90 : decode cX2_birth 90 = .ok (.iconst 2, 1) := by decide +kernel
theorem dX2_birth_91 : decode cX2_birth 91 = .ok (.ireturn, 1) := by decide +kernel
theorem dX2_day_0 : decode cX2_day 0 = .ok (.aload_n 0, 1) := by decide +kernel
theorem dX2_day_1 : decode cX2_day 1 = .ok (.getfield 22, 3) := by decide +kernel
theorem dX2_day_4 : decode cX2_day 4 = .ok (.ifCond .ne 6, 3) := by decide +kernel
theorem dX2_day_7 : decode cX2_day 7 = .ok (.bipush (-103), 2) := by decide +kernel
theorem dX2_day_9 : decode cX2_day 9 = .ok (.ireturn, 1) := by decide +kernel
theorem dX2_day_10 : decode cX2_day 10 = .ok (.aload_n 0, 1) := by decide +kernel
theorem dX2_day_11 : decode cX2_day 11 = .ok (.getfield 34, 3) := by decide +kernel
theorem dX2_day_14 : decode cX2_day 14 = .ok (.getfield 112, 3) := by decide +kernel
theorem dX2_day_17 : decode cX2_day 17 = .ok (.bipush 30, 2) := by decide +kernel
theorem dX2_day_19 : decode cX2_day 19 = .ok (.if_icmp .lt 6, 3) := by decide +kernel
theorem dX2_day_22 : decode cX2_day 22 = .ok (.bipush (-104), 2) := by decide +kernel
theorem dX2_day_24 : decode cX2_day 24 = .ok (.ireturn, 1) := by decide +kernel
theorem dX2_day_25 : decode cX2_day 25 = .ok (.iconst 0, 1) := by decide +kernel
theorem dX2_day_26 : decode cX2_day 26 = .ok (.istore_n 1, 1) := by decide +kernel
theorem dX2_day_27 : decode cX2_day 27 = .ok (.iload_n 1, 1) := by decide +kernel
theorem dX2_day_28 : decode cX2_day 28 = .ok (.aload_n 0, 1) := by decide +kernel
theorem dX2_day_29 : decode cX2_day 29 = .ok (.getfield 22, 3) := by decide +kernel
theorem dX2_day_32 : decode cX2_day 32 = .ok (.if_icmp .ge 41, 3) := by decide +kernel
theorem dX2_day_35 : decode cX2_day 35 = .ok (.aload_n 0, 1) := by decide +kernel
theorem dX2_day_36 : decode cX2_day 36 = .ok (.getfield 34, 3) := by decide +kernel
theorem dX2_day_39 : decode cX2_day 39 = .ok (.getfield 115, 3) := by decide +kernel
theorem dX2_day_42 : decode cX2_day 42 = .ok (.iload_n 1, 1) := by decide +kernel
theorem dX2_day_43 : decode cX2_day 43 = .ok (.aload_n 0, 1) := by decide +kernel
theorem dX2_day_44 : decode cX2_day 44 = .ok (.getfield 34, 3) := by decide +kernel
theorem dX2_day_47 : decode cX2_day 47 = .ok (.getfield 112, 3) := by decide +kernel
theorem dX2_day_50 : decode cX2_day 50 = .ok (.invokestatic 118, 3) := by decide +kernel
theorem dX2_day_53 : decode cX2_day 53 = .ok (.aload_n 0, 1) := by decide +kernel
theorem dX2_day_54 : decode cX2_day 54 = .ok (.getfield 34, 3) := by decide +kernel
theorem dX2_day_57 : decode cX2_day 57 = .ok (.getfield 76, 3) := by decide +kernel
theorem dX2_day_60 : decode cX2_day 60 = .ok (.iload_n 1, 1) := by decide +kernel
theorem dX2_day_61 : decode cX2_day 61 = .ok (.invokevirtual 58, 3) := by decide +kernel
theorem dX2_day_64 : decode cX2_day 64 = .ok (.invokevirtual 54, 3) := by decide +kernel
theorem dX2_day_67 : decode cX2_day 67 = .ok (.iinc 1 1, 3) := by decide +kernel
theorem dX2_day_70 : decode cX2_day 70 = .ok (.goto (-43), 3) := by decide +kernel
theorem dX2_day_73 : decode cX2_day 73 = .ok (.aload_n 0, 1) := by decide +kernel
theorem dX2_day_74 : decode cX2_day 74 = .ok (.aload_n 0, 1) := by decide +kernel
theorem dX2_day_75 : decode cX2_day 75 = .ok (.getfield 34, 3) := by decide +kernel
theorem dX2_day_78 : decode cX2_day 78 = .ok (.getfield 76, 3) := by decide +kernel
theorem dX2_day_81 : decode cX2_day 81 = .ok (.invokevirtual 122, 3) := by decide +kernel
theorem dX2_day_84 : decode cX2_day 84 = .ok (.aload_n 0, 1) := by decide +kernel
theorem dX2_day_85 : decode cX2_day 85 = .ok (.getfield 34, 3) := by decide +kernel
theorem dX2_day_88 : decode cX2_day 88 = .ok (.dup, 1) := by decide +kernel
theorem dX2_day_89 : decode cX2_day 89 = .ok (.getfield 112, 3) := by decide +kernel
theorem dX2_day_92 : decode cX2_day 92 = .ok (.iconst 1, 1) := by decide +kernel
theorem dX2_day_93 : decode cX2_day 93 = .ok (.iadd, 1) := by decide +kernel
theorem dX2_day_94 : decode cX2_day 94 = .ok (.putfield 112, 3) := by decide +kernel
theorem dX2_day_97 : decode cX2_day 97 = .ok (.aload_n 0, 1) := by decide +kernel
theorem dX2_day_98 : decode cX2_day 98 = .ok (.getfield 34, 3) := by decide +kernel
theorem dX2_day_101 : decode cX2_day 101 = .ok (.getfield 112, 3) := by decide +kernel
theorem dX2_day_104 : decode cX2_day 104 = .ok (.ireturn, 1) := by decide +kernel
theorem dX2_then_0 : decode cX2_then 0 = .ok (.aload_n 0, 1) := by decide +kernel
theorem dX2_then_1 : decode cX2_then 1 = .ok (.iload_n 1, 1) := by decide +kernel
theorem dX2_then_2 : decode cX2_then 2 = .ok (.invokevirtual 79, 3) := by decide +kernel
theorem dX2_then_5 : decode cX2_then 5 = .ok (.ifCond .eq 11, 3) := by decide +kernel
theorem dX2_then_8 : decode cX2_then 8 = .ok (.aload_n 0, 1) := by decide +kernel
theorem dX2_then_9 : decode cX2_then 9 = .ok (.iload_n 2, 1) := by decide +kernel
theorem dX2_then_10 : decode cX2_then 10 = .ok (.invokevirtual 126, 3) := by decide +kernel
theorem dX2_then_13 : decode cX2_then 13 = .ok (.ifCond .ne 6, 3) := by decide +kernel
theorem dX2_then_16 : decode cX2_then 16 = .ok (.bipush (-101), 2) := by decide +kernel
theorem dX2_then_18 : decode cX2_then 18 = .ok (.ireturn, 1) := by decide +kernel
theorem dX2_then_19 : decode cX2_then 19 = .ok (.aload_n 0, 1) := by decide +kernel
theorem dX2_then_20 : decode cX2_then 20 = .ok (.iload_n 1, 1) := by decide +kernel
theorem dX2_then_21 : decode cX2_then 21 = .ok (.iload_n 2, 1) := by decide +kernel
theorem dX2_then_22 : decode cX2_then 22 = .ok (.invokevirtual 129, 3) := by decide +kernel
theorem dX2_then_25 : decode cX2_then 25 = .ok (.ireturn, 1) := by decide +kernel
theorem dX2_goesTo_0 : decode cX2_goesTo 0 = .ok (.aload_n 0, 1) := by decide +kernel
theorem dX2_goesTo_1 : decode cX2_goesTo 1 = .ok (.iload_n 2, 1) := by decide +kernel
theorem dX2_goesTo_2 : decode cX2_goesTo 2 = .ok (.invokevirtual 126, 3) := by decide +kernel
theorem dX2_goesTo_5 : decode cX2_goesTo 5 = .ok (.ifCond .ne 6, 3) := by decide +kernel
theorem dX2_goesTo_8 : decode cX2_goesTo 8 = .ok (.bipush (-101), 2) := by decide +kernel
theorem dX2_goesTo_10 : decode cX2_goesTo 10 = .ok (.ireturn, 1) := by decide +kernel
theorem dX2_goesTo_11 : decode cX2_goesTo 11 = .ok (.aload_n 0, 1) := by decide +kernel
theorem dX2_goesTo_12 : decode cX2_goesTo 12 = .ok (.iload_n 1, 1) := by decide +kernel
theorem dX2_goesTo_13 : decode cX2_goesTo 13 = .ok (.iload_n 2, 1) := by decide +kernel
theorem dX2_goesTo_14 : decode cX2_goesTo 14 = .ok (.invokevirtual 132, 3) := by decide +kernel
theorem dX2_goesTo_17 : decode cX2_goesTo 17 = .ok (.ireturn, 1) := by decide +kernel
theorem dX2_walk_0 : decode cX2_walk 0 = .ok (.aload_n 0, 1) := by decide +kernel
theorem dX2_walk_1 : decode cX2_walk 1 = .ok (.getfield 22, 3) := by decide +kernel
theorem dX2_walk_4 : decode cX2_walk 4 = .ok (.ifCond .ne 6, 3) := by decide +kernel
theorem dX2_walk_7 : decode cX2_walk 7 = .ok (.bipush (-103), 2) := by decide +kernel
theorem dX2_walk_9 : decode cX2_walk 9 = .ok (.ireturn, 1) := by decide +kernel
theorem dX2_walk_10 : decode cX2_walk 10 = .ok (.aload_n 0, 1) := by decide +kernel
theorem dX2_walk_11 : decode cX2_walk 11 = .ok (.aload_n 0, 1) := by decide +kernel
theorem dX2_walk_12 : decode cX2_walk 12 = .ok (.getfield 34, 3) := by decide +kernel
theorem dX2_walk_15 : decode cX2_walk 15 = .ok (.getfield 76, 3) := by decide +kernel
theorem dX2_walk_18 : decode cX2_walk 18 = .ok (.invokevirtual 135, 3) := by decide +kernel
theorem dX2_walk_21 : decode cX2_walk 21 = .ok (.ireturn, 1) := by decide +kernel
theorem dX2_debt_0 : decode cX2_debt 0 = .ok (.iload_n 1, 1) := by decide +kernel
theorem dX2_debt_1 : decode cX2_debt 1 = .ok (.iconst 1, 1) := by decide +kernel
theorem dX2_debt_2 : decode cX2_debt 2 = .ok (.if_icmp .lt 19, 3) := by decide +kernel
theorem dX2_debt_5 : decode cX2_debt 5 = .ok (.iload_n 1, 1) := by decide +kernel
theorem dX2_debt_6 : decode cX2_debt 6 = .ok (.bipush 9, 2) := by decide +kernel
theorem dX2_debt_8 : decode cX2_debt 8 = .ok (.if_icmp .gt 13, 3) := by decide +kernel
theorem dX2_debt_11 : decode cX2_debt 11 = .ok (.iload_n 2, 1) := by decide +kernel
theorem dX2_debt_12 : decode cX2_debt 12 = .ok (.ifCond .lt 9, 3) := by decide +kernel
theorem dX2_debt_15 : decode cX2_debt 15 = .ok (.iload_n 2, 1) := by decide +kernel
theorem dX2_debt_16 : decode cX2_debt 16 = .ok (.bipush 99, 2) := by decide +kernel
theorem dX2_debt_18 : decode cX2_debt 18 = .ok (.if_icmp .le 6, 3) := by decide +kernel
theorem dX2_debt_21 : decode cX2_debt 21 = .ok (.bipush (-102), 2) := by decide +kernel
theorem dX2_debt_23 : decode cX2_debt 23 = .ok (.ireturn, 1) := by decide +kernel
theorem dX2_debt_24 : decode cX2_debt 24 = .ok (.aload_n 0, 1) := by decide +kernel
theorem dX2_debt_25 : decode cX2_debt 25 = .ok (.getfield 22, 3) := by decide +kernel
theorem dX2_debt_28 : decode cX2_debt 28 = .ok (.ifCond .ne 6, 3) := by decide +kernel
theorem dX2_debt_31 : decode cX2_debt 31 = .ok (.bipush (-103), 2) := by decide +kernel
theorem dX2_debt_33 : decode cX2_debt 33 = .ok (.ireturn, 1) := by decide +kernel
theorem dX2_debt_34 : decode cX2_debt 34 = .ok (.aload_n 0, 1) := by decide +kernel
theorem dX2_debt_35 : decode cX2_debt 35 = .ok (.getfield 34, 3) := by decide +kernel
theorem dX2_debt_38 : decode cX2_debt 38 = .ok (.getfield 139, 3) := by decide +kernel
theorem dX2_debt_41 : decode cX2_debt 41 = .ok (.bipush 6, 2) := by decide +kernel
theorem dX2_debt_43 : decode cX2_debt 43 = .ok (.if_icmp .lt 6, 3) := by decide +kernel
theorem dX2_debt_46 : decode cX2_debt 46 = .ok (.bipush (-104), 2) := by decide +kernel
theorem dX2_debt_48 : decode cX2_debt 48 = .ok (.ireturn, 1) := by decide +kernel
theorem dX2_debt_49 : decode cX2_debt 49 = .ok (.aload_n 0, 1) := by decide +kernel
theorem dX2_debt_50 : decode cX2_debt 50 = .ok (.getfield 34, 3) := by decide +kernel
theorem dX2_debt_53 : decode cX2_debt 53 = .ok (.getfield 142, 3) := by decide +kernel
theorem dX2_debt_56 : decode cX2_debt 56 = .ok (.aload_n 0, 1) := by decide +kernel
theorem dX2_debt_57 : decode cX2_debt 57 = .ok (.getfield 34, 3) := by decide +kernel
theorem dX2_debt_60 : decode cX2_debt 60 = .ok (.getfield 139, 3) := by decide +kernel
theorem dX2_debt_63 : decode cX2_debt 63 = .ok (.iload_n 1, 1) := by decide +kernel
theorem dX2_debt_64 : decode cX2_debt 64 = .ok (.invokevirtual 54, 3) := by decide +kernel
theorem dX2_debt_67 : decode cX2_debt 67 = .ok (.aload_n 0, 1) := by decide +kernel
theorem dX2_debt_68 : decode cX2_debt 68 = .ok (.getfield 34, 3) := by decide +kernel
theorem dX2_debt_71 : decode cX2_debt 71 = .ok (.getfield 145, 3) := by decide +kernel
theorem dX2_debt_74 : decode cX2_debt 74 = .ok (.aload_n 0, 1) := by decide +kernel
theorem dX2_debt_75 : decode cX2_debt 75 = .ok (.getfield 34, 3) := by decide +kernel
theorem dX2_debt_78 : decode cX2_debt 78 = .ok (.getfield 139, 3) := by decide +kernel
theorem dX2_debt_81 : decode cX2_debt 81 = .ok (.iload_n 2, 1) := by decide +kernel
theorem dX2_debt_82 : decode cX2_debt 82 = .ok (.invokevirtual 54, 3) := by decide +kernel
theorem dX2_debt_85 : decode cX2_debt 85 = .ok (.aload_n 0, 1) := by decide +kernel
theorem dX2_debt_86 : decode cX2_debt 86 = .ok (.getfield 34, 3) := by decide +kernel
theorem dX2_debt_89 : decode cX2_debt 89 = .ok (.dup, 1) := by decide +kernel
theorem dX2_debt_90 : decode cX2_debt 90 = .ok (.getfield 139, 3) := by decide +kernel
theorem dX2_debt_93 : decode cX2_debt 93 = .ok (.iconst 1, 1) := by decide +kernel
theorem dX2_debt_94 : decode cX2_debt 94 = .ok (.iadd, 1) := by decide +kernel
theorem dX2_debt_95 : decode cX2_debt 95 = .ok (.putfield 139, 3) := by decide +kernel
theorem dX2_debt_98 : decode cX2_debt 98 = .ok (.aload_n 0, 1) := by decide +kernel
theorem dX2_debt_99 : decode cX2_debt 99 = .ok (.getfield 34, 3) := by decide +kernel
theorem dX2_debt_102 : decode cX2_debt 102 = .ok (.getfield 139, 3) := by decide +kernel
theorem dX2_debt_105 : decode cX2_debt 105 = .ok (.ireturn, 1) := by decide +kernel
theorem dX2_pay_0 : decode cX2_pay 0 = .ok (.iconst 0, 1) := by decide +kernel
theorem dX2_pay_1 : decode cX2_pay 1 = .ok (.istore_n 1, 1) := by decide +kernel
theorem dX2_pay_2 : decode cX2_pay 2 = .ok (.iconst 0, 1) := by decide +kernel
theorem dX2_pay_3 : decode cX2_pay 3 = .ok (.istore_n 2, 1) := by decide +kernel
theorem dX2_pay_4 : decode cX2_pay 4 = .ok (.iload_n 2, 1) := by decide +kernel
theorem dX2_pay_5 : decode cX2_pay 5 = .ok (.aload_n 0, 1) := by decide +kernel
theorem dX2_pay_6 : decode cX2_pay 6 = .ok (.getfield 34, 3) := by decide +kernel
theorem dX2_pay_9 : decode cX2_pay 9 = .ok (.getfield 139, 3) := by decide +kernel
theorem dX2_pay_12 : decode cX2_pay 12 = .ok (.if_icmp .ge 23, 3) := by decide +kernel
theorem dX2_pay_15 : decode cX2_pay 15 = .ok (.iload_n 1, 1) := by decide +kernel
theorem dX2_pay_16 : decode cX2_pay 16 = .ok (.aload_n 0, 1) := by decide +kernel
theorem dX2_pay_17 : decode cX2_pay 17 = .ok (.getfield 34, 3) := by decide +kernel
theorem dX2_pay_20 : decode cX2_pay 20 = .ok (.getfield 142, 3) := by decide +kernel
theorem dX2_pay_23 : decode cX2_pay 23 = .ok (.iload_n 2, 1) := by decide +kernel
theorem dX2_pay_24 : decode cX2_pay 24 = .ok (.invokevirtual 58, 3) := by decide +kernel
theorem dX2_pay_27 : decode cX2_pay 27 = .ok (.iadd, 1) := by decide +kernel
theorem dX2_pay_28 : decode cX2_pay 28 = .ok (.istore_n 1, 1) := by decide +kernel
theorem dX2_pay_29 : decode cX2_pay 29 = .ok (.iinc 2 1, 3) := by decide +kernel
theorem dX2_pay_32 : decode cX2_pay 32 = .ok (.goto (-28), 3) := by decide +kernel
theorem dX2_pay_35 : decode cX2_pay 35 = .ok (.aload_n 0, 1) := by decide +kernel
theorem dX2_pay_36 : decode cX2_pay 36 = .ok (.getfield 34, 3) := by decide +kernel
theorem dX2_pay_39 : decode cX2_pay 39 = .ok (.iconst 0, 1) := by decide +kernel
theorem dX2_pay_40 : decode cX2_pay 40 = .ok (.putfield 139, 3) := by decide +kernel
theorem dX2_pay_43 : decode cX2_pay 43 = .ok (.iload_n 1, 1) := by decide +kernel
theorem dX2_pay_44 : decode cX2_pay 44 = .ok (.ireturn, 1) := by decide +kernel
theorem dX2_when_0 : decode cX2_when 0 = .ok (.aload_n 0, 1) := by decide +kernel
theorem dX2_when_1 : decode cX2_when 1 = .ok (.iload_n 1, 1) := by decide +kernel
theorem dX2_when_2 : decode cX2_when 2 = .ok (.invokevirtual 79, 3) := by decide +kernel
theorem dX2_when_5 : decode cX2_when 5 = .ok (.ifCond .ne 6, 3) := by decide +kernel
theorem dX2_when_8 : decode cX2_when 8 = .ok (.bipush (-101), 2) := by decide +kernel
theorem dX2_when_10 : decode cX2_when 10 = .ok (.ireturn, 1) := by decide +kernel
theorem dX2_when_11 : decode cX2_when 11 = .ok (.aload_n 0, 1) := by decide +kernel
theorem dX2_when_12 : decode cX2_when 12 = .ok (.getfield 28, 3) := by decide +kernel
theorem dX2_when_15 : decode cX2_when 15 = .ok (.iload_n 1, 1) := by decide +kernel
theorem dX2_when_16 : decode cX2_when 16 = .ok (.invokevirtual 58, 3) := by decide +kernel
theorem dX2_when_19 : decode cX2_when 19 = .ok (.istore_n 3, 1) := by decide +kernel
theorem dX2_when_20 : decode cX2_when 20 = .ok (.aload_n 0, 1) := by decide +kernel
theorem dX2_when_21 : decode cX2_when 21 = .ok (.getfield 34, 3) := by decide +kernel
theorem dX2_when_24 : decode cX2_when 24 = .ok (.getfield 76, 3) := by decide +kernel
theorem dX2_when_27 : decode cX2_when 27 = .ok (.iload_n 1, 1) := by decide +kernel
theorem dX2_when_28 : decode cX2_when 28 = .ok (.invokevirtual 58, 3) := by decide +kernel
theorem dX2_when_31 : decode cX2_when 31 = .ok (.istore 4, 2) := by decide +kernel
theorem dX2_when_33 : decode cX2_when 33 = .ok (.iconst 0, 1) := by decide +kernel
theorem dX2_when_34 : decode cX2_when 34 = .ok (.istore 5, 2) := by decide +kernel
theorem dX2_when_36 : decode cX2_when 36 = .ok (.iload 5, 2) := by decide +kernel
theorem dX2_when_38 : decode cX2_when 38 = .ok (.bipush 99, 2) := by decide +kernel
theorem dX2_when_40 : decode cX2_when 40 = .ok (.if_icmp .gt 30, 3) := by decide +kernel
theorem dX2_when_43 : decode cX2_when 43 = .ok (.iload_n 3, 1) := by decide +kernel
theorem dX2_when_44 : decode cX2_when 44 = .ok (.iload 4, 2) := by decide +kernel
theorem dX2_when_46 : decode cX2_when 46 = .ok (.invokestatic 156, 3) := by decide +kernel
theorem dX2_when_49 : decode cX2_when 49 = .ok (.iload_n 2, 1) := by decide +kernel
theorem dX2_when_50 : decode cX2_when 50 = .ok (.if_icmp .ne 6, 3) := by decide +kernel
theorem dX2_when_53 : decode cX2_when 53 = .ok (.iload 5, 2) := by decide +kernel
theorem dX2_when_55 : decode cX2_when 55 = .ok (.ireturn, 1) := by decide +kernel
theorem dX2_when_56 : decode cX2_when 56 = .ok (.iload_n 3, 1) := by decide +kernel
theorem dX2_when_57 : decode cX2_when 57 = .ok (.iload 4, 2) := by decide +kernel
theorem dX2_when_59 : decode cX2_when 59 = .ok (.invokestatic 159, 3) := by decide +kernel
theorem dX2_when_62 : decode cX2_when 62 = .ok (.istore 4, 2) := by decide +kernel
theorem dX2_when_64 : decode cX2_when 64 = .ok (.iinc 5 1, 3) := by decide +kernel
theorem dX2_when_67 : decode cX2_when 67 = .ok (.goto (-31), 3) := by decide +kernel
theorem dX2_when_70 : decode cX2_when 70 = .ok (.iconst (-1), 1) := by decide +kernel
theorem dX2_when_71 : decode cX2_when 71 = .ok (.ireturn, 1) := by decide +kernel
theorem dX2_years_0 : decode cX2_years 0 = .ok (.iload_n 1, 1) := by decide +kernel
theorem dX2_years_1 : decode cX2_years 1 = .ok (.iconst 1, 1) := by decide +kernel
theorem dX2_years_2 : decode cX2_years 2 = .ok (.if_icmp .lt 22, 3) := by decide +kernel
theorem dX2_years_5 : decode cX2_years 5 = .ok (.iload_n 1, 1) := by decide +kernel
theorem dX2_years_6 : decode cX2_years 6 = .ok (.bipush 60, 2) := by decide +kernel
theorem dX2_years_8 : decode cX2_years 8 = .ok (.if_icmp .gt 16, 3) := by decide +kernel
theorem dX2_years_11 : decode cX2_years 11 = .ok (.iload_n 2, 1) := by decide +kernel
theorem dX2_years_12 : decode cX2_years 12 = .ok (.ifCond .lt 12, 3) := by decide +kernel
theorem dX2_years_15 : decode cX2_years 15 = .ok (.iload_n 3, 1) := by decide +kernel
theorem dX2_years_16 : decode cX2_years 16 = .ok (.ifCond .lt 8, 3) := by decide +kernel
theorem dX2_years_19 : decode cX2_years 19 = .ok (.iload_n 3, 1) := by decide +kernel
theorem dX2_years_20 : decode cX2_years 20 = .ok (.iconst 2, 1) := by decide +kernel
theorem dX2_years_21 : decode cX2_years 21 = .ok (.if_icmp .le 6, 3) := by decide +kernel
theorem dX2_years_24 : decode cX2_years 24 = .ok (.bipush (-102), 2) := by decide +kernel
theorem dX2_years_26 : decode cX2_years 26 = .ok (.ireturn, 1) := by decide +kernel
theorem dX2_years_27 : decode cX2_years 27 = .ok (.aload_n 0, 1) := by decide +kernel
theorem dX2_years_28 : decode cX2_years 28 = .ok (.getfield 22, 3) := by decide +kernel
theorem dX2_years_31 : decode cX2_years 31 = .ok (.ifCond .ne 6, 3) := by decide +kernel
theorem dX2_years_34 : decode cX2_years 34 = .ok (.bipush (-103), 2) := by decide +kernel
theorem dX2_years_36 : decode cX2_years 36 = .ok (.ireturn, 1) := by decide +kernel
theorem dX2_years_37 : decode cX2_years 37 = .ok (.aload_n 0, 1) := by decide +kernel
theorem dX2_years_38 : decode cX2_years 38 = .ok (.getfield 45, 3) := by decide +kernel
theorem dX2_years_41 : decode cX2_years 41 = .ok (.aload_n 0, 1) := by decide +kernel
theorem dX2_years_42 : decode cX2_years 42 = .ok (.getfield 34, 3) := by decide +kernel
theorem dX2_years_45 : decode cX2_years 45 = .ok (.getfield 76, 3) := by decide +kernel
theorem dX2_years_48 : decode cX2_years 48 = .ok (.invokevirtual 180, 3) := by decide +kernel
theorem dX2_years_51 : decode cX2_years 51 = .ok (.iload_n 2, 1) := by decide +kernel
theorem dX2_years_52 : decode cX2_years 52 = .ok (.istore 4, 2) := by decide +kernel
theorem dX2_years_54 : decode cX2_years 54 = .ok (.iconst 0, 1) := by decide +kernel
theorem dX2_years_55 : decode cX2_years 55 = .ok (.istore 5, 2) := by decide +kernel
theorem dX2_years_57 : decode cX2_years 57 = .ok (.iconst 0, 1) := by decide +kernel
theorem dX2_years_58 : decode cX2_years 58 = .ok (.istore 6, 2) := by decide +kernel
theorem dX2_years_60 : decode cX2_years 60 = .ok (.iload 6, 2) := by decide +kernel
theorem dX2_years_62 : decode cX2_years 62 = .ok (.iload_n 1, 1) := by decide +kernel
theorem dX2_years_63 : decode cX2_years 63 = .ok (.if_icmp .ge 51, 3) := by decide +kernel
theorem dX2_years_66 : decode cX2_years 66 = .ok (.iload 4, 2) := by decide +kernel
theorem dX2_years_68 : decode cX2_years 68 = .ok (.invokestatic 183, 3) := by decide +kernel
theorem dX2_years_71 : decode cX2_years 71 = .ok (.istore 4, 2) := by decide +kernel
theorem dX2_years_73 : decode cX2_years 73 = .ok (.aload_n 0, 1) := by decide +kernel
theorem dX2_years_74 : decode cX2_years 74 = .ok (.aload_n 0, 1) := by decide +kernel
theorem dX2_years_75 : decode cX2_years 75 = .ok (.getfield 45, 3) := by decide +kernel
theorem dX2_years_78 : decode cX2_years 78 = .ok (.aload_n 0, 1) := by decide +kernel
theorem dX2_years_79 : decode cX2_years 79 = .ok (.iload 4, 2) := by decide +kernel
theorem dX2_years_81 : decode cX2_years 81 = .ok (.invokevirtual 186, 3) := by decide +kernel
theorem dX2_years_84 : decode cX2_years 84 = .ok (.invokevirtual 189, 3) := by decide +kernel
theorem dX2_years_87 : decode cX2_years 87 = .ok (.iload 5, 2) := by decide +kernel
theorem dX2_years_89 : decode cX2_years 89 = .ok (.aload_n 0, 1) := by decide +kernel
theorem dX2_years_90 : decode cX2_years 90 = .ok (.aload_n 0, 1) := by decide +kernel
theorem dX2_years_91 : decode cX2_years 91 = .ok (.getfield 45, 3) := by decide +kernel
theorem dX2_years_94 : decode cX2_years 94 = .ok (.invokevirtual 135, 3) := by decide +kernel
theorem dX2_years_97 : decode cX2_years 97 = .ok (.iadd, 1) := by decide +kernel
theorem dX2_years_98 : decode cX2_years 98 = .ok (.istore 5, 2) := by decide +kernel
theorem dX2_years_100 : decode cX2_years 100 = .ok (.aload_n 0, 1) := by decide +kernel
theorem dX2_years_101 : decode cX2_years 101 = .ok (.aload_n 0, 1) := by decide +kernel
theorem dX2_years_102 : decode cX2_years 102 = .ok (.getfield 45, 3) := by decide +kernel
theorem dX2_years_105 : decode cX2_years 105 = .ok (.invokevirtual 122, 3) := by decide +kernel
theorem dX2_years_108 : decode cX2_years 108 = .ok (.iinc 6 1, 3) := by decide +kernel
theorem dX2_years_111 : decode cX2_years 111 = .ok (.goto (-51), 3) := by decide +kernel
theorem dX2_years_114 : decode cX2_years 114 = .ok (.iload_n 3, 1) := by decide +kernel
theorem dX2_years_115 : decode cX2_years 115 = .ok (.ifCond .ne 6, 3) := by decide +kernel
theorem dX2_years_118 : decode cX2_years 118 = .ok (.iload 5, 2) := by decide +kernel
theorem dX2_years_120 : decode cX2_years 120 = .ok (.ireturn, 1) := by decide +kernel
theorem dX2_years_121 : decode cX2_years 121 = .ok (.iload_n 3, 1) := by decide +kernel
theorem dX2_years_122 : decode cX2_years 122 = .ok (.iconst 1, 1) := by decide +kernel
theorem dX2_years_123 : decode cX2_years 123 = .ok (.if_icmp .ne 14, 3) := by decide +kernel
theorem dX2_years_126 : decode cX2_years 126 = .ok (.aload_n 0, 1) := by decide +kernel
theorem dX2_years_127 : decode cX2_years 127 = .ok (.aload_n 0, 1) := by decide +kernel
theorem dX2_years_128 : decode cX2_years 128 = .ok (.getfield 45, 3) := by decide +kernel
theorem dX2_years_131 : decode cX2_years 131 = .ok (.invokevirtual 192, 3) := by decide +kernel
theorem dX2_years_134 : decode cX2_years 134 = .ok (.goto 5, 3) := by decide +kernel
theorem dX2_years_137 : decode cX2_years 137 = .ok (.iload 4, 2) := by decide +kernel
theorem dX2_years_139 : decode cX2_years 139 = .ok (.ireturn, 1) := by decide +kernel
theorem dX2_count_0 : decode cX2_count 0 = .ok (.iload_n 1, 1) := by decide +kernel
theorem dX2_count_1 : decode cX2_count 1 = .ok (.tableswitch 124 0 9 #[55, 60, 68, 76, 88, 93, 101, 106, 114, 119], 55) := by decide +kernel
theorem dX2_count_56 : decode cX2_count 56 = .ok (.aload_n 0, 1) := by decide +kernel
theorem dX2_count_57 : decode cX2_count 57 = .ok (.getfield 22, 3) := by decide +kernel
theorem dX2_count_60 : decode cX2_count 60 = .ok (.ireturn, 1) := by decide +kernel
theorem dX2_count_61 : decode cX2_count 61 = .ok (.aload_n 0, 1) := by decide +kernel
theorem dX2_count_62 : decode cX2_count 62 = .ok (.getfield 34, 3) := by decide +kernel
theorem dX2_count_65 : decode cX2_count 65 = .ok (.getfield 112, 3) := by decide +kernel
theorem dX2_count_68 : decode cX2_count 68 = .ok (.ireturn, 1) := by decide +kernel
theorem dX2_count_69 : decode cX2_count 69 = .ok (.aload_n 0, 1) := by decide +kernel
theorem dX2_count_70 : decode cX2_count 70 = .ok (.getfield 34, 3) := by decide +kernel
theorem dX2_count_73 : decode cX2_count 73 = .ok (.getfield 103, 3) := by decide +kernel
theorem dX2_count_76 : decode cX2_count 76 = .ok (.ireturn, 1) := by decide +kernel
theorem dX2_count_77 : decode cX2_count 77 = .ok (.aload_n 0, 1) := by decide +kernel
theorem dX2_count_78 : decode cX2_count 78 = .ok (.aload_n 0, 1) := by decide +kernel
theorem dX2_count_79 : decode cX2_count 79 = .ok (.getfield 34, 3) := by decide +kernel
theorem dX2_count_82 : decode cX2_count 82 = .ok (.getfield 76, 3) := by decide +kernel
theorem dX2_count_85 : decode cX2_count 85 = .ok (.invokevirtual 192, 3) := by decide +kernel
theorem dX2_count_88 : decode cX2_count 88 = .ok (.ireturn, 1) := by decide +kernel
theorem dX2_count_89 : decode cX2_count 89 = .ok (.aload_n 0, 1) := by decide +kernel
theorem dX2_count_90 : decode cX2_count 90 = .ok (.invokevirtual 198, 3) := by decide +kernel
theorem dX2_count_93 : decode cX2_count 93 = .ok (.ireturn, 1) := by decide +kernel
theorem dX2_count_94 : decode cX2_count 94 = .ok (.aload_n 0, 1) := by decide +kernel
theorem dX2_count_95 : decode cX2_count 95 = .ok (.getfield 34, 3) := by decide +kernel
theorem dX2_count_98 : decode cX2_count 98 = .ok (.getfield 139, 3) := by decide +kernel
theorem dX2_count_101 : decode cX2_count 101 = .ok (.ireturn, 1) := by decide +kernel
theorem dX2_count_102 : decode cX2_count 102 = .ok (.aload_n 0, 1) := by decide +kernel
theorem dX2_count_103 : decode cX2_count 103 = .ok (.invokevirtual 201, 3) := by decide +kernel
theorem dX2_count_106 : decode cX2_count 106 = .ok (.ireturn, 1) := by decide +kernel
theorem dX2_count_107 : decode cX2_count 107 = .ok (.aload_n 0, 1) := by decide +kernel
theorem dX2_count_108 : decode cX2_count 108 = .ok (.getfield 34, 3) := by decide +kernel
theorem dX2_count_111 : decode cX2_count 111 = .ok (.getfield 162, 3) := by decide +kernel
theorem dX2_count_114 : decode cX2_count 114 = .ok (.ireturn, 1) := by decide +kernel
theorem dX2_count_115 : decode cX2_count 115 = .ok (.aload_n 0, 1) := by decide +kernel
theorem dX2_count_116 : decode cX2_count 116 = .ok (.getfield 18, 3) := by decide +kernel
theorem dX2_count_119 : decode cX2_count 119 = .ok (.ireturn, 1) := by decide +kernel
theorem dX2_count_120 : decode cX2_count 120 = .ok (.aload_n 0, 1) := by decide +kernel
theorem dX2_count_121 : decode cX2_count 121 = .ok (.getfield 25, 3) := by decide +kernel
theorem dX2_count_124 : decode cX2_count 124 = .ok (.ireturn, 1) := by decide +kernel
theorem dX2_count_125 : decode cX2_count 125 = .ok (.bipush (-102), 2) := by decide +kernel
theorem dX2_count_127 : decode cX2_count 127 = .ok (.ireturn, 1) := by decide +kernel
theorem dX2_canStandAt_0 : decode cX2_canStandAt 0 = .ok (.iload_n 0, 1) := by decide +kernel
theorem dX2_canStandAt_1 : decode cX2_canStandAt 1 = .ok (.bipush 17, 2) := by decide +kernel
theorem dX2_canStandAt_3 : decode cX2_canStandAt 3 = .ok (.if_icmp .lt 5, 3) := by decide +kernel
theorem dX2_canStandAt_6 : decode cX2_canStandAt 6 = .ok (.iconst 0, 1) := by decide +kernel
theorem dX2_canStandAt_7 : decode cX2_canStandAt 7 = .ok (.ireturn, 1) := by decide +kernel
theorem dX2_canStandAt_8 : decode cX2_canStandAt 8 = .ok (.iload_n 0, 1) := by decide +kernel
theorem dX2_canStandAt_9 : decode cX2_canStandAt 9 = .ok (.iconst 3, 1) := by decide +kernel
theorem dX2_canStandAt_10 : decode cX2_canStandAt 10 = .ok (.irem, 1) := by decide +kernel
theorem dX2_canStandAt_11 : decode cX2_canStandAt 11 = .ok (.lookupswitch 57 #[(0, 25), (1, 39)], 25) := by decide +kernel
theorem dX2_canStandAt_36 : decode cX2_canStandAt 36 = .ok (.iload_n 1, 1) := by decide +kernel
theorem dX2_canStandAt_37 : decode cX2_canStandAt 37 = .ok (.invokestatic 73, 3) := by decide +kernel
theorem dX2_canStandAt_40 : decode cX2_canStandAt 40 = .ok (.iconst (-1), 1) := by decide +kernel
theorem dX2_canStandAt_41 : decode cX2_canStandAt 41 = .ok (.if_icmp .eq 7, 3) := by decide +kernel
theorem dX2_canStandAt_44 : decode cX2_canStandAt 44 = .ok (.iconst 1, 1) := by decide +kernel
theorem dX2_canStandAt_45 : decode cX2_canStandAt 45 = .ok (.goto 4, 3) := by decide +kernel
theorem dX2_canStandAt_48 : decode cX2_canStandAt 48 = .ok (.iconst 0, 1) := by decide +kernel
theorem dX2_canStandAt_49 : decode cX2_canStandAt 49 = .ok (.ireturn, 1) := by decide +kernel
theorem dX2_canStandAt_50 : decode cX2_canStandAt 50 = .ok (.iload_n 1, 1) := by decide +kernel
theorem dX2_canStandAt_51 : decode cX2_canStandAt 51 = .ok (.bipush 48, 2) := by decide +kernel
theorem dX2_canStandAt_53 : decode cX2_canStandAt 53 = .ok (.if_icmp .lt 13, 3) := by decide +kernel
theorem dX2_canStandAt_56 : decode cX2_canStandAt 56 = .ok (.iload_n 1, 1) := by decide +kernel
theorem dX2_canStandAt_57 : decode cX2_canStandAt 57 = .ok (.bipush 57, 2) := by decide +kernel
theorem dX2_canStandAt_59 : decode cX2_canStandAt 59 = .ok (.if_icmp .gt 7, 3) := by decide +kernel
theorem dX2_canStandAt_62 : decode cX2_canStandAt 62 = .ok (.iconst 1, 1) := by decide +kernel
theorem dX2_canStandAt_63 : decode cX2_canStandAt 63 = .ok (.goto 4, 3) := by decide +kernel
theorem dX2_canStandAt_66 : decode cX2_canStandAt 66 = .ok (.iconst 0, 1) := by decide +kernel
theorem dX2_canStandAt_67 : decode cX2_canStandAt 67 = .ok (.ireturn, 1) := by decide +kernel
theorem dX2_canStandAt_68 : decode cX2_canStandAt 68 = .ok (.iload_n 1, 1) := by decide +kernel
theorem dX2_canStandAt_69 : decode cX2_canStandAt 69 = .ok (.bipush 44, 2) := by decide +kernel
theorem dX2_canStandAt_71 : decode cX2_canStandAt 71 = .ok (.if_icmp .ne 7, 3) := by decide +kernel
theorem dX2_canStandAt_74 : decode cX2_canStandAt 74 = .ok (.iconst 1, 1) := by decide +kernel
theorem dX2_canStandAt_75 : decode cX2_canStandAt 75 = .ok (.goto 4, 3) := by decide +kernel
theorem dX2_canStandAt_78 : decode cX2_canStandAt 78 = .ok (.iconst 0, 1) := by decide +kernel
theorem dX2_canStandAt_79 : decode cX2_canStandAt 79 = .ok (.ireturn, 1) := by decide +kernel
theorem dX2_kindOfLetter_0 : decode cX2_kindOfLetter 0 = .ok (.iconst 0, 1) := by decide +kernel
theorem dX2_kindOfLetter_1 : decode cX2_kindOfLetter 1 = .ok (.istore_n 1, 1) := by decide +kernel
theorem dX2_kindOfLetter_2 : decode cX2_kindOfLetter 2 = .ok (.iload_n 1, 1) := by decide +kernel
theorem dX2_kindOfLetter_3 : decode cX2_kindOfLetter 3 = .ok (.ldc 233, 2) := by decide +kernel
theorem dX2_kindOfLetter_5 : decode cX2_kindOfLetter 5 = .ok (.invokevirtual 235, 3) := by decide +kernel
theorem dX2_kindOfLetter_8 : decode cX2_kindOfLetter 8 = .ok (.if_icmp .ge 21, 3) := by decide +kernel
theorem dX2_kindOfLetter_11 : decode cX2_kindOfLetter 11 = .ok (.ldc 233, 2) := by decide +kernel
theorem dX2_kindOfLetter_13 : decode cX2_kindOfLetter 13 = .ok (.iload_n 1, 1) := by decide +kernel
theorem dX2_kindOfLetter_14 : decode cX2_kindOfLetter 14 = .ok (.invokevirtual 240, 3) := by decide +kernel
theorem dX2_kindOfLetter_17 : decode cX2_kindOfLetter 17 = .ok (.iload_n 0, 1) := by decide +kernel
theorem dX2_kindOfLetter_18 : decode cX2_kindOfLetter 18 = .ok (.if_icmp .ne 5, 3) := by decide +kernel
theorem dX2_kindOfLetter_21 : decode cX2_kindOfLetter 21 = .ok (.iload_n 1, 1) := by decide +kernel
theorem dX2_kindOfLetter_22 : decode cX2_kindOfLetter 22 = .ok (.ireturn, 1) := by decide +kernel
theorem dX2_kindOfLetter_23 : decode cX2_kindOfLetter 23 = .ok (.iinc 1 1, 3) := by decide +kernel
theorem dX2_kindOfLetter_26 : decode cX2_kindOfLetter 26 = .ok (.goto (-24), 3) := by decide +kernel
theorem dX2_kindOfLetter_29 : decode cX2_kindOfLetter 29 = .ok (.iconst (-1), 1) := by decide +kernel
theorem dX2_kindOfLetter_30 : decode cX2_kindOfLetter 30 = .ok (.ireturn, 1) := by decide +kernel
theorem dX2_housesOnPage_0 : decode cX2_housesOnPage 0 = .ok (.aload_n 0, 1) := by decide +kernel
theorem dX2_housesOnPage_1 : decode cX2_housesOnPage 1 = .ok (.getfield 18, 3) := by decide +kernel
theorem dX2_housesOnPage_4 : decode cX2_housesOnPage 4 = .ok (.iconst 3, 1) := by decide +kernel
theorem dX2_housesOnPage_5 : decode cX2_housesOnPage 5 = .ok (.irem, 1) := by decide +kernel
theorem dX2_housesOnPage_6 : decode cX2_housesOnPage 6 = .ok (.iconst 2, 1) := by decide +kernel
theorem dX2_housesOnPage_7 : decode cX2_housesOnPage 7 = .ok (.if_icmp .ne 7, 3) := by decide +kernel
theorem dX2_housesOnPage_10 : decode cX2_housesOnPage 10 = .ok (.iconst 1, 1) := by decide +kernel
theorem dX2_housesOnPage_11 : decode cX2_housesOnPage 11 = .ok (.goto 4, 3) := by decide +kernel
theorem dX2_housesOnPage_14 : decode cX2_housesOnPage 14 = .ok (.iconst 0, 1) := by decide +kernel
theorem dX2_housesOnPage_15 : decode cX2_housesOnPage 15 = .ok (.istore_n 1, 1) := by decide +kernel
theorem dX2_housesOnPage_16 : decode cX2_housesOnPage 16 = .ok (.iload_n 1, 1) := by decide +kernel
theorem dX2_housesOnPage_17 : decode cX2_housesOnPage 17 = .ok (.ifCond .eq 14, 3) := by decide +kernel
theorem dX2_housesOnPage_20 : decode cX2_housesOnPage 20 = .ok (.aload_n 0, 1) := by decide +kernel
theorem dX2_housesOnPage_21 : decode cX2_housesOnPage 21 = .ok (.invokevirtual 244, 3) := by decide +kernel
theorem dX2_housesOnPage_24 : decode cX2_housesOnPage 24 = .ok (.aload_n 0, 1) := by decide +kernel
theorem dX2_housesOnPage_25 : decode cX2_housesOnPage 25 = .ok (.getfield 18, 3) := by decide +kernel
theorem dX2_housesOnPage_28 : decode cX2_housesOnPage 28 = .ok (.if_icmp .eq 5, 3) := by decide +kernel
theorem dX2_housesOnPage_31 : decode cX2_housesOnPage 31 = .ok (.iconst 0, 1) := by decide +kernel
theorem dX2_housesOnPage_32 : decode cX2_housesOnPage 32 = .ok (.ireturn, 1) := by decide +kernel
theorem dX2_housesOnPage_33 : decode cX2_housesOnPage 33 = .ok (.aload_n 0, 1) := by decide +kernel
theorem dX2_housesOnPage_34 : decode cX2_housesOnPage 34 = .ok (.getfield 18, 3) := by decide +kernel
theorem dX2_housesOnPage_37 : decode cX2_housesOnPage 37 = .ok (.iconst 1, 1) := by decide +kernel
theorem dX2_housesOnPage_38 : decode cX2_housesOnPage 38 = .ok (.iadd, 1) := by decide +kernel
theorem dX2_housesOnPage_39 : decode cX2_housesOnPage 39 = .ok (.iconst 3, 1) := by decide +kernel
theorem dX2_housesOnPage_40 : decode cX2_housesOnPage 40 = .ok (.idiv, 1) := by decide +kernel
theorem dX2_housesOnPage_41 : decode cX2_housesOnPage 41 = .ok (.ireturn, 1) := by decide +kernel
theorem dX2_isA_0 : decode cX2_isA 0 = .ok (.iload_n 1, 1) := by decide +kernel
theorem dX2_isA_1 : decode cX2_isA 1 = .ok (.ifCond .eq 18, 3) := by decide +kernel
theorem dX2_isA_4 : decode cX2_isA 4 = .ok (.iload_n 1, 1) := by decide +kernel
theorem dX2_isA_5 : decode cX2_isA 5 = .ok (.iload_n 0, 1) := by decide +kernel
theorem dX2_isA_6 : decode cX2_isA 6 = .ok (.if_icmp .eq 13, 3) := by decide +kernel
theorem dX2_isA_9 : decode cX2_isA 9 = .ok (.iload_n 1, 1) := by decide +kernel
theorem dX2_isA_10 : decode cX2_isA 10 = .ok (.iconst 2, 1) := by decide +kernel
theorem dX2_isA_11 : decode cX2_isA 11 = .ok (.if_icmp .ne 12, 3) := by decide +kernel
theorem dX2_isA_14 : decode cX2_isA 14 = .ok (.iload_n 0, 1) := by decide +kernel
theorem dX2_isA_15 : decode cX2_isA 15 = .ok (.iconst 4, 1) := by decide +kernel
theorem dX2_isA_16 : decode cX2_isA 16 = .ok (.if_icmp .ne 7, 3) := by decide +kernel
theorem dX2_isA_19 : decode cX2_isA 19 = .ok (.iconst 1, 1) := by decide +kernel
theorem dX2_isA_20 : decode cX2_isA 20 = .ok (.goto 4, 3) := by decide +kernel
theorem dX2_isA_23 : decode cX2_isA 23 = .ok (.iconst 0, 1) := by decide +kernel
theorem dX2_isA_24 : decode cX2_isA 24 = .ok (.ireturn, 1) := by decide +kernel
theorem dX2_numberOf_0 : decode cX2_numberOf 0 = .ok (.iload_n 0, 1) := by decide +kernel
theorem dX2_numberOf_1 : decode cX2_numberOf 1 = .ok (.iconst 1, 1) := by decide +kernel
theorem dX2_numberOf_2 : decode cX2_numberOf 2 = .ok (.if_icmp .ne 9, 3) := by decide +kernel
theorem dX2_numberOf_5 : decode cX2_numberOf 5 = .ok (.iload_n 1, 1) := by decide +kernel
theorem dX2_numberOf_6 : decode cX2_numberOf 6 = .ok (.iconst 2, 1) := by decide +kernel
theorem dX2_numberOf_7 : decode cX2_numberOf 7 = .ok (.idiv, 1) := by decide +kernel
theorem dX2_numberOf_8 : decode cX2_numberOf 8 = .ok (.goto 4, 3) := by decide +kernel
theorem dX2_numberOf_11 : decode cX2_numberOf 11 = .ok (.iload_n 1, 1) := by decide +kernel
theorem dX2_numberOf_12 : decode cX2_numberOf 12 = .ok (.ireturn, 1) := by decide +kernel
theorem dX2_ageNextDay_0 : decode cX2_ageNextDay 0 = .ok (.iload_n 0, 1) := by decide +kernel
theorem dX2_ageNextDay_1 : decode cX2_ageNextDay 1 = .ok (.iconst 4, 1) := by decide +kernel
theorem dX2_ageNextDay_2 : decode cX2_ageNextDay 2 = .ok (.if_icmp .ne 7, 3) := by decide +kernel
theorem dX2_ageNextDay_5 : decode cX2_ageNextDay 5 = .ok (.iload_n 1, 1) := by decide +kernel
theorem dX2_ageNextDay_6 : decode cX2_ageNextDay 6 = .ok (.goto 6, 3) := by decide +kernel
theorem dX2_ageNextDay_9 : decode cX2_ageNextDay 9 = .ok (.iload_n 1, 1) := by decide +kernel
theorem dX2_ageNextDay_10 : decode cX2_ageNextDay 10 = .ok (.iconst 1, 1) := by decide +kernel
theorem dX2_ageNextDay_11 : decode cX2_ageNextDay 11 = .ok (.iadd, 1) := by decide +kernel
theorem dX2_ageNextDay_12 : decode cX2_ageNextDay 12 = .ok (.ireturn, 1) := by decide +kernel
theorem dX2_isHouse_0 : decode cX2_isHouse 0 = .ok (.iload_n 1, 1) := by decide +kernel
theorem dX2_isHouse_1 : decode cX2_isHouse 1 = .ok (.ifCond .lt 15, 3) := by decide +kernel
theorem dX2_isHouse_4 : decode cX2_isHouse 4 = .ok (.iload_n 1, 1) := by decide +kernel
theorem dX2_isHouse_5 : decode cX2_isHouse 5 = .ok (.aload_n 0, 1) := by decide +kernel
theorem dX2_isHouse_6 : decode cX2_isHouse 6 = .ok (.getfield 22, 3) := by decide +kernel
theorem dX2_isHouse_9 : decode cX2_isHouse 9 = .ok (.if_icmp .ge 7, 3) := by decide +kernel
theorem dX2_isHouse_12 : decode cX2_isHouse 12 = .ok (.iconst 1, 1) := by decide +kernel
theorem dX2_isHouse_13 : decode cX2_isHouse 13 = .ok (.goto 4, 3) := by decide +kernel
theorem dX2_isHouse_16 : decode cX2_isHouse 16 = .ok (.iconst 0, 1) := by decide +kernel
theorem dX2_isHouse_17 : decode cX2_isHouse 17 = .ok (.ireturn, 1) := by decide +kernel
theorem dX2_lendsACradle_0 : decode cX2_lendsACradle 0 = .ok (.aload_n 0, 1) := by decide +kernel
theorem dX2_lendsACradle_1 : decode cX2_lendsACradle 1 = .ok (.iload_n 1, 1) := by decide +kernel
theorem dX2_lendsACradle_2 : decode cX2_lendsACradle 2 = .ok (.iconst 1, 1) := by decide +kernel
theorem dX2_lendsACradle_3 : decode cX2_lendsACradle 3 = .ok (.iadd, 1) := by decide +kernel
theorem dX2_lendsACradle_4 : decode cX2_lendsACradle 4 = .ok (.invokevirtual 79, 3) := by decide +kernel
theorem dX2_lendsACradle_7 : decode cX2_lendsACradle 7 = .ok (.ifCond .eq 24, 3) := by decide +kernel
theorem dX2_lendsACradle_10 : decode cX2_lendsACradle 10 = .ok (.aload_n 0, 1) := by decide +kernel
theorem dX2_lendsACradle_11 : decode cX2_lendsACradle 11 = .ok (.getfield 28, 3) := by decide +kernel
theorem dX2_lendsACradle_14 : decode cX2_lendsACradle 14 = .ok (.iload_n 1, 1) := by decide +kernel
theorem dX2_lendsACradle_15 : decode cX2_lendsACradle 15 = .ok (.iconst 1, 1) := by decide +kernel
theorem dX2_lendsACradle_16 : decode cX2_lendsACradle 16 = .ok (.iadd, 1) := by decide +kernel
theorem dX2_lendsACradle_17 : decode cX2_lendsACradle 17 = .ok (.invokevirtual 58, 3) := by decide +kernel
theorem dX2_lendsACradle_20 : decode cX2_lendsACradle 20 = .ok (.iconst 3, 1) := by decide +kernel
theorem dX2_lendsACradle_21 : decode cX2_lendsACradle 21 = .ok (.invokestatic 96, 3) := by decide +kernel
theorem dX2_lendsACradle_24 : decode cX2_lendsACradle 24 = .ok (.ifCond .eq 7, 3) := by decide +kernel
theorem dX2_lendsACradle_27 : decode cX2_lendsACradle 27 = .ok (.iconst 1, 1) := by decide +kernel
theorem dX2_lendsACradle_28 : decode cX2_lendsACradle 28 = .ok (.goto 4, 3) := by decide +kernel
theorem dX2_lendsACradle_31 : decode cX2_lendsACradle 31 = .ok (.iconst 0, 1) := by decide +kernel
theorem dX2_lendsACradle_32 : decode cX2_lendsACradle 32 = .ok (.ireturn, 1) := by decide +kernel
theorem dX2_bear_0 : decode cX2_bear 0 = .ok (.aload_n 1, 1) := by decide +kernel
theorem dX2_bear_1 : decode cX2_bear 1 = .ok (.iload_n 2, 1) := by decide +kernel
theorem dX2_bear_2 : decode cX2_bear 2 = .ok (.iconst 0, 1) := by decide +kernel
theorem dX2_bear_3 : decode cX2_bear 3 = .ok (.invokevirtual 54, 3) := by decide +kernel
theorem dX2_bear_6 : decode cX2_bear 6 = .ok (.aload_n 0, 1) := by decide +kernel
theorem dX2_bear_7 : decode cX2_bear 7 = .ok (.iload_n 2, 1) := by decide +kernel
theorem dX2_bear_8 : decode cX2_bear 8 = .ok (.invokevirtual 109, 3) := by decide +kernel
theorem dX2_bear_11 : decode cX2_bear 11 = .ok (.ifCond .eq 11, 3) := by decide +kernel
theorem dX2_bear_14 : decode cX2_bear 14 = .ok (.aload_n 1, 1) := by decide +kernel
theorem dX2_bear_15 : decode cX2_bear 15 = .ok (.iload_n 2, 1) := by decide +kernel
theorem dX2_bear_16 : decode cX2_bear 16 = .ok (.iconst 1, 1) := by decide +kernel
theorem dX2_bear_17 : decode cX2_bear 17 = .ok (.iadd, 1) := by decide +kernel
theorem dX2_bear_18 : decode cX2_bear 18 = .ok (.iconst 0, 1) := by decide +kernel
theorem dX2_bear_19 : decode cX2_bear 19 = .ok (.invokevirtual 54, 3) := by decide +kernel
theorem dX2_bear_22 : decode cX2_bear 22 = .ok (.return_, 1) := by decide +kernel
theorem dX2_bearIfMayBe_0 : decode cX2_bearIfMayBe 0 = .ok (.aload_n 0, 1) := by decide +kernel
theorem dX2_bearIfMayBe_1 : decode cX2_bearIfMayBe 1 = .ok (.getfield 28, 3) := by decide +kernel
theorem dX2_bearIfMayBe_4 : decode cX2_bearIfMayBe 4 = .ok (.iload_n 2, 1) := by decide +kernel
theorem dX2_bearIfMayBe_5 : decode cX2_bearIfMayBe 5 = .ok (.invokevirtual 58, 3) := by decide +kernel
theorem dX2_bearIfMayBe_8 : decode cX2_bearIfMayBe 8 = .ok (.iconst 2, 1) := by decide +kernel
theorem dX2_bearIfMayBe_9 : decode cX2_bearIfMayBe 9 = .ok (.invokestatic 96, 3) := by decide +kernel
theorem dX2_bearIfMayBe_12 : decode cX2_bearIfMayBe 12 = .ok (.ifCond .ne 9, 3) := by decide +kernel
theorem dX2_bearIfMayBe_15 : decode cX2_bearIfMayBe 15 = .ok (.aload_n 0, 1) := by decide +kernel
theorem dX2_bearIfMayBe_16 : decode cX2_bearIfMayBe 16 = .ok (.aload_n 1, 1) := by decide +kernel
theorem dX2_bearIfMayBe_17 : decode cX2_bearIfMayBe 17 = .ok (.iload_n 2, 1) := by decide +kernel
theorem dX2_bearIfMayBe_18 : decode cX2_bearIfMayBe 18 = .ok (.invokevirtual 99, 3) := by decide +kernel
theorem dX2_bearIfMayBe_21 : decode cX2_bearIfMayBe 21 = .ok (.return_, 1) := by decide +kernel
theorem dX2_growOlder_0 : decode cX2_growOlder 0 = .ok (.iconst 0, 1) := by decide +kernel
theorem dX2_growOlder_1 : decode cX2_growOlder 1 = .ok (.istore_n 2, 1) := by decide +kernel
theorem dX2_growOlder_2 : decode cX2_growOlder 2 = .ok (.iload_n 2, 1) := by decide +kernel
theorem dX2_growOlder_3 : decode cX2_growOlder 3 = .ok (.aload_n 0, 1) := by decide +kernel
theorem dX2_growOlder_4 : decode cX2_growOlder 4 = .ok (.getfield 22, 3) := by decide +kernel
theorem dX2_growOlder_7 : decode cX2_growOlder 7 = .ok (.if_icmp .ge 30, 3) := by decide +kernel
theorem dX2_growOlder_10 : decode cX2_growOlder 10 = .ok (.aload_n 1, 1) := by decide +kernel
theorem dX2_growOlder_11 : decode cX2_growOlder 11 = .ok (.iload_n 2, 1) := by decide +kernel
theorem dX2_growOlder_12 : decode cX2_growOlder 12 = .ok (.aload_n 0, 1) := by decide +kernel
theorem dX2_growOlder_13 : decode cX2_growOlder 13 = .ok (.getfield 28, 3) := by decide +kernel
theorem dX2_growOlder_16 : decode cX2_growOlder 16 = .ok (.iload_n 2, 1) := by decide +kernel
theorem dX2_growOlder_17 : decode cX2_growOlder 17 = .ok (.invokevirtual 58, 3) := by decide +kernel
theorem dX2_growOlder_20 : decode cX2_growOlder 20 = .ok (.aload_n 1, 1) := by decide +kernel
theorem dX2_growOlder_21 : decode cX2_growOlder 21 = .ok (.iload_n 2, 1) := by decide +kernel
theorem dX2_growOlder_22 : decode cX2_growOlder 22 = .ok (.invokevirtual 58, 3) := by decide +kernel
theorem dX2_growOlder_25 : decode cX2_growOlder 25 = .ok (.invokestatic 159, 3) := by decide +kernel
theorem dX2_growOlder_28 : decode cX2_growOlder 28 = .ok (.invokevirtual 54, 3) := by decide +kernel
theorem dX2_growOlder_31 : decode cX2_growOlder 31 = .ok (.iinc 2 1, 3) := by decide +kernel
theorem dX2_growOlder_34 : decode cX2_growOlder 34 = .ok (.goto (-32), 3) := by decide +kernel
theorem dX2_growOlder_37 : decode cX2_growOlder 37 = .ok (.return_, 1) := by decide +kernel
theorem dX2_numberAt_0 : decode cX2_numberAt 0 = .ok (.aload_n 0, 1) := by decide +kernel
theorem dX2_numberAt_1 : decode cX2_numberAt 1 = .ok (.getfield 28, 3) := by decide +kernel
theorem dX2_numberAt_4 : decode cX2_numberAt 4 = .ok (.iload_n 2, 1) := by decide +kernel
theorem dX2_numberAt_5 : decode cX2_numberAt 5 = .ok (.invokevirtual 58, 3) := by decide +kernel
theorem dX2_numberAt_8 : decode cX2_numberAt 8 = .ok (.aload_n 1, 1) := by decide +kernel
theorem dX2_numberAt_9 : decode cX2_numberAt 9 = .ok (.iload_n 2, 1) := by decide +kernel
theorem dX2_numberAt_10 : decode cX2_numberAt 10 = .ok (.invokevirtual 58, 3) := by decide +kernel
theorem dX2_numberAt_13 : decode cX2_numberAt 13 = .ok (.invokestatic 156, 3) := by decide +kernel
theorem dX2_numberAt_16 : decode cX2_numberAt 16 = .ok (.ireturn, 1) := by decide +kernel
theorem dX2_allNumbers_0 : decode cX2_allNumbers 0 = .ok (.iconst 0, 1) := by decide +kernel
theorem dX2_allNumbers_1 : decode cX2_allNumbers 1 = .ok (.istore_n 2, 1) := by decide +kernel
theorem dX2_allNumbers_2 : decode cX2_allNumbers 2 = .ok (.iconst 0, 1) := by decide +kernel
theorem dX2_allNumbers_3 : decode cX2_allNumbers 3 = .ok (.istore_n 3, 1) := by decide +kernel
theorem dX2_allNumbers_4 : decode cX2_allNumbers 4 = .ok (.iload_n 3, 1) := by decide +kernel
theorem dX2_allNumbers_5 : decode cX2_allNumbers 5 = .ok (.aload_n 0, 1) := by decide +kernel
theorem dX2_allNumbers_6 : decode cX2_allNumbers 6 = .ok (.getfield 22, 3) := by decide +kernel
theorem dX2_allNumbers_9 : decode cX2_allNumbers 9 = .ok (.if_icmp .ge 18, 3) := by decide +kernel
theorem dX2_allNumbers_12 : decode cX2_allNumbers 12 = .ok (.iload_n 2, 1) := by decide +kernel
theorem dX2_allNumbers_13 : decode cX2_allNumbers 13 = .ok (.aload_n 0, 1) := by decide +kernel
theorem dX2_allNumbers_14 : decode cX2_allNumbers 14 = .ok (.aload_n 1, 1) := by decide +kernel
theorem dX2_allNumbers_15 : decode cX2_allNumbers 15 = .ok (.iload_n 3, 1) := by decide +kernel
theorem dX2_allNumbers_16 : decode cX2_allNumbers 16 = .ok (.invokevirtual 247, 3) := by decide +kernel
theorem dX2_allNumbers_19 : decode cX2_allNumbers 19 = .ok (.iadd, 1) := by decide +kernel
theorem dX2_allNumbers_20 : decode cX2_allNumbers 20 = .ok (.istore_n 2, 1) := by decide +kernel
theorem dX2_allNumbers_21 : decode cX2_allNumbers 21 = .ok (.iinc 3 1, 3) := by decide +kernel
theorem dX2_allNumbers_24 : decode cX2_allNumbers 24 = .ok (.goto (-20), 3) := by decide +kernel
theorem dX2_allNumbers_27 : decode cX2_allNumbers 27 = .ok (.iload_n 2, 1) := by decide +kernel
theorem dX2_allNumbers_28 : decode cX2_allNumbers 28 = .ok (.ireturn, 1) := by decide +kernel
theorem dX2_turnInWalk_0 : decode cX2_turnInWalk 0 = .ok (.aload_n 0, 1) := by decide +kernel
theorem dX2_turnInWalk_1 : decode cX2_turnInWalk 1 = .ok (.aload_n 1, 1) := by decide +kernel
theorem dX2_turnInWalk_2 : decode cX2_turnInWalk 2 = .ok (.iload_n 2, 1) := by decide +kernel
theorem dX2_turnInWalk_3 : decode cX2_turnInWalk 3 = .ok (.invokevirtual 247, 3) := by decide +kernel
theorem dX2_turnInWalk_6 : decode cX2_turnInWalk 6 = .ok (.istore_n 3, 1) := by decide +kernel
theorem dX2_turnInWalk_7 : decode cX2_turnInWalk 7 = .ok (.iconst 0, 1) := by decide +kernel
theorem dX2_turnInWalk_8 : decode cX2_turnInWalk 8 = .ok (.istore 4, 2) := by decide +kernel
theorem dX2_turnInWalk_10 : decode cX2_turnInWalk 10 = .ok (.iconst 0, 1) := by decide +kernel
theorem dX2_turnInWalk_11 : decode cX2_turnInWalk 11 = .ok (.istore 5, 2) := by decide +kernel
theorem dX2_turnInWalk_13 : decode cX2_turnInWalk 13 = .ok (.iload 5, 2) := by decide +kernel
theorem dX2_turnInWalk_15 : decode cX2_turnInWalk 15 = .ok (.aload_n 0, 1) := by decide +kernel
theorem dX2_turnInWalk_16 : decode cX2_turnInWalk 16 = .ok (.getfield 22, 3) := by decide +kernel
theorem dX2_turnInWalk_19 : decode cX2_turnInWalk 19 = .ok (.if_icmp .ge 39, 3) := by decide +kernel
theorem dX2_turnInWalk_22 : decode cX2_turnInWalk 22 = .ok (.aload_n 0, 1) := by decide +kernel
theorem dX2_turnInWalk_23 : decode cX2_turnInWalk 23 = .ok (.aload_n 1, 1) := by decide +kernel
theorem dX2_turnInWalk_24 : decode cX2_turnInWalk 24 = .ok (.iload 5, 2) := by decide +kernel
theorem dX2_turnInWalk_26 : decode cX2_turnInWalk 26 = .ok (.invokevirtual 247, 3) := by decide +kernel
theorem dX2_turnInWalk_29 : decode cX2_turnInWalk 29 = .ok (.istore 6, 2) := by decide +kernel
theorem dX2_turnInWalk_31 : decode cX2_turnInWalk 31 = .ok (.iload 6, 2) := by decide +kernel
theorem dX2_turnInWalk_33 : decode cX2_turnInWalk 33 = .ok (.iload_n 3, 1) := by decide +kernel
theorem dX2_turnInWalk_34 : decode cX2_turnInWalk 34 = .ok (.if_icmp .lt 15, 3) := by decide +kernel
theorem dX2_turnInWalk_37 : decode cX2_turnInWalk 37 = .ok (.iload 6, 2) := by decide +kernel
theorem dX2_turnInWalk_39 : decode cX2_turnInWalk 39 = .ok (.iload_n 3, 1) := by decide +kernel
theorem dX2_turnInWalk_40 : decode cX2_turnInWalk 40 = .ok (.if_icmp .ne 12, 3) := by decide +kernel
theorem dX2_turnInWalk_43 : decode cX2_turnInWalk 43 = .ok (.iload 5, 2) := by decide +kernel
theorem dX2_turnInWalk_45 : decode cX2_turnInWalk 45 = .ok (.iload_n 2, 1) := by decide +kernel
theorem dX2_turnInWalk_46 : decode cX2_turnInWalk 46 = .ok (.if_icmp .ge 6, 3) := by decide +kernel
theorem dX2_turnInWalk_49 : decode cX2_turnInWalk 49 = .ok (.iinc 4 1, 3) := by decide +kernel
theorem dX2_turnInWalk_52 : decode cX2_turnInWalk 52 = .ok (.iinc 5 1, 3) := by decide +kernel
theorem dX2_turnInWalk_55 : decode cX2_turnInWalk 55 = .ok (.goto (-42), 3) := by decide +kernel
theorem dX2_turnInWalk_58 : decode cX2_turnInWalk 58 = .ok (.iload 4, 2) := by decide +kernel
theorem dX2_turnInWalk_60 : decode cX2_turnInWalk 60 = .ok (.ireturn, 1) := by decide +kernel
theorem dX2_houseOfTurn_0 : decode cX2_houseOfTurn 0 = .ok (.iconst 0, 1) := by decide +kernel
theorem dX2_houseOfTurn_1 : decode cX2_houseOfTurn 1 = .ok (.istore_n 3, 1) := by decide +kernel
theorem dX2_houseOfTurn_2 : decode cX2_houseOfTurn 2 = .ok (.iload_n 3, 1) := by decide +kernel
theorem dX2_houseOfTurn_3 : decode cX2_houseOfTurn 3 = .ok (.aload_n 0, 1) := by decide +kernel
theorem dX2_houseOfTurn_4 : decode cX2_houseOfTurn 4 = .ok (.getfield 22, 3) := by decide +kernel
theorem dX2_houseOfTurn_7 : decode cX2_houseOfTurn 7 = .ok (.if_icmp .ge 21, 3) := by decide +kernel
theorem dX2_houseOfTurn_10 : decode cX2_houseOfTurn 10 = .ok (.aload_n 0, 1) := by decide +kernel
theorem dX2_houseOfTurn_11 : decode cX2_houseOfTurn 11 = .ok (.aload_n 1, 1) := by decide +kernel
theorem dX2_houseOfTurn_12 : decode cX2_houseOfTurn 12 = .ok (.iload_n 3, 1) := by decide +kernel
theorem dX2_houseOfTurn_13 : decode cX2_houseOfTurn 13 = .ok (.invokevirtual 92, 3) := by decide +kernel
theorem dX2_houseOfTurn_16 : decode cX2_houseOfTurn 16 = .ok (.iload_n 2, 1) := by decide +kernel
theorem dX2_houseOfTurn_17 : decode cX2_houseOfTurn 17 = .ok (.if_icmp .ne 5, 3) := by decide +kernel
theorem dX2_houseOfTurn_20 : decode cX2_houseOfTurn 20 = .ok (.iload_n 3, 1) := by decide +kernel
theorem dX2_houseOfTurn_21 : decode cX2_houseOfTurn 21 = .ok (.ireturn, 1) := by decide +kernel
theorem dX2_houseOfTurn_22 : decode cX2_houseOfTurn 22 = .ok (.iinc 3 1, 3) := by decide +kernel
theorem dX2_houseOfTurn_25 : decode cX2_houseOfTurn 25 = .ok (.goto (-23), 3) := by decide +kernel
theorem dX2_houseOfTurn_28 : decode cX2_houseOfTurn 28 = .ok (.iconst 0, 1) := by decide +kernel
theorem dX2_houseOfTurn_29 : decode cX2_houseOfTurn 29 = .ok (.ireturn, 1) := by decide +kernel
theorem dX2_lengthOfWalk_0 : decode cX2_lengthOfWalk 0 = .ok (.iconst 0, 1) := by decide +kernel
theorem dX2_lengthOfWalk_1 : decode cX2_lengthOfWalk 1 = .ok (.istore_n 2, 1) := by decide +kernel
theorem dX2_lengthOfWalk_2 : decode cX2_lengthOfWalk 2 = .ok (.iconst 0, 1) := by decide +kernel
theorem dX2_lengthOfWalk_3 : decode cX2_lengthOfWalk 3 = .ok (.istore_n 3, 1) := by decide +kernel
theorem dX2_lengthOfWalk_4 : decode cX2_lengthOfWalk 4 = .ok (.iconst 0, 1) := by decide +kernel
theorem dX2_lengthOfWalk_5 : decode cX2_lengthOfWalk 5 = .ok (.istore 4, 2) := by decide +kernel
theorem dX2_lengthOfWalk_7 : decode cX2_lengthOfWalk 7 = .ok (.iload 4, 2) := by decide +kernel
theorem dX2_lengthOfWalk_9 : decode cX2_lengthOfWalk 9 = .ok (.aload_n 0, 1) := by decide +kernel
theorem dX2_lengthOfWalk_10 : decode cX2_lengthOfWalk 10 = .ok (.getfield 22, 3) := by decide +kernel
theorem dX2_lengthOfWalk_13 : decode cX2_lengthOfWalk 13 = .ok (.if_icmp .ge 31, 3) := by decide +kernel
theorem dX2_lengthOfWalk_16 : decode cX2_lengthOfWalk 16 = .ok (.aload_n 0, 1) := by decide +kernel
theorem dX2_lengthOfWalk_17 : decode cX2_lengthOfWalk 17 = .ok (.aload_n 1, 1) := by decide +kernel
theorem dX2_lengthOfWalk_18 : decode cX2_lengthOfWalk 18 = .ok (.iload 4, 2) := by decide +kernel
theorem dX2_lengthOfWalk_20 : decode cX2_lengthOfWalk 20 = .ok (.invokevirtual 250, 3) := by decide +kernel
theorem dX2_lengthOfWalk_23 : decode cX2_lengthOfWalk 23 = .ok (.istore 5, 2) := by decide +kernel
theorem dX2_lengthOfWalk_25 : decode cX2_lengthOfWalk 25 = .ok (.iload_n 2, 1) := by decide +kernel
theorem dX2_lengthOfWalk_26 : decode cX2_lengthOfWalk 26 = .ok (.iload 5, 2) := by decide +kernel
theorem dX2_lengthOfWalk_28 : decode cX2_lengthOfWalk 28 = .ok (.iload_n 3, 1) := by decide +kernel
theorem dX2_lengthOfWalk_29 : decode cX2_lengthOfWalk 29 = .ok (.isub, 1) := by decide +kernel
theorem dX2_lengthOfWalk_30 : decode cX2_lengthOfWalk 30 = .ok (.invokestatic 253, 3) := by decide +kernel
theorem dX2_lengthOfWalk_33 : decode cX2_lengthOfWalk 33 = .ok (.iadd, 1) := by decide +kernel
theorem dX2_lengthOfWalk_34 : decode cX2_lengthOfWalk 34 = .ok (.istore_n 2, 1) := by decide +kernel
theorem dX2_lengthOfWalk_35 : decode cX2_lengthOfWalk 35 = .ok (.iload 5, 2) := by decide +kernel
theorem dX2_lengthOfWalk_37 : decode cX2_lengthOfWalk 37 = .ok (.istore_n 3, 1) := by decide +kernel
theorem dX2_lengthOfWalk_38 : decode cX2_lengthOfWalk 38 = .ok (.iinc 4 1, 3) := by decide +kernel
theorem dX2_lengthOfWalk_41 : decode cX2_lengthOfWalk 41 = .ok (.goto (-34), 3) := by decide +kernel
theorem dX2_lengthOfWalk_44 : decode cX2_lengthOfWalk 44 = .ok (.iload_n 2, 1) := by decide +kernel
theorem dX2_lengthOfWalk_45 : decode cX2_lengthOfWalk 45 = .ok (.ireturn, 1) := by decide +kernel
theorem dX2_isDay_0 : decode cX2_isDay 0 = .ok (.aload_n 0, 1) := by decide +kernel
theorem dX2_isDay_1 : decode cX2_isDay 1 = .ok (.getfield 22, 3) := by decide +kernel
theorem dX2_isDay_4 : decode cX2_isDay 4 = .ok (.ifCond .le 22, 3) := by decide +kernel
theorem dX2_isDay_7 : decode cX2_isDay 7 = .ok (.iload_n 1, 1) := by decide +kernel
theorem dX2_isDay_8 : decode cX2_isDay 8 = .ok (.ifCond .lt 18, 3) := by decide +kernel
theorem dX2_isDay_11 : decode cX2_isDay 11 = .ok (.iload_n 1, 1) := by decide +kernel
theorem dX2_isDay_12 : decode cX2_isDay 12 = .ok (.aload_n 0, 1) := by decide +kernel
theorem dX2_isDay_13 : decode cX2_isDay 13 = .ok (.getfield 34, 3) := by decide +kernel
theorem dX2_isDay_16 : decode cX2_isDay 16 = .ok (.getfield 112, 3) := by decide +kernel
theorem dX2_isDay_19 : decode cX2_isDay 19 = .ok (.if_icmp .gt 7, 3) := by decide +kernel
theorem dX2_isDay_22 : decode cX2_isDay 22 = .ok (.iconst 1, 1) := by decide +kernel
theorem dX2_isDay_23 : decode cX2_isDay 23 = .ok (.goto 4, 3) := by decide +kernel
theorem dX2_isDay_26 : decode cX2_isDay 26 = .ok (.iconst 0, 1) := by decide +kernel
theorem dX2_isDay_27 : decode cX2_isDay 27 = .ok (.ireturn, 1) := by decide +kernel
theorem dX2_cellOf_0 : decode cX2_cellOf 0 = .ok (.iload_n 1, 1) := by decide +kernel
theorem dX2_cellOf_1 : decode cX2_cellOf 1 = .ok (.bipush 6, 2) := by decide +kernel
theorem dX2_cellOf_3 : decode cX2_cellOf 3 = .ok (.imul, 1) := by decide +kernel
theorem dX2_cellOf_4 : decode cX2_cellOf 4 = .ok (.iload_n 0, 1) := by decide +kernel
theorem dX2_cellOf_5 : decode cX2_cellOf 5 = .ok (.iadd, 1) := by decide +kernel
theorem dX2_cellOf_6 : decode cX2_cellOf 6 = .ok (.ireturn, 1) := by decide +kernel
theorem dX2_numberNow_0 : decode cX2_numberNow 0 = .ok (.aload_n 0, 1) := by decide +kernel
theorem dX2_numberNow_1 : decode cX2_numberNow 1 = .ok (.aload_n 0, 1) := by decide +kernel
theorem dX2_numberNow_2 : decode cX2_numberNow 2 = .ok (.getfield 34, 3) := by decide +kernel
theorem dX2_numberNow_5 : decode cX2_numberNow 5 = .ok (.getfield 76, 3) := by decide +kernel
theorem dX2_numberNow_8 : decode cX2_numberNow 8 = .ok (.iload_n 1, 1) := by decide +kernel
theorem dX2_numberNow_9 : decode cX2_numberNow 9 = .ok (.invokevirtual 247, 3) := by decide +kernel
theorem dX2_numberNow_12 : decode cX2_numberNow 12 = .ok (.ireturn, 1) := by decide +kernel
theorem dX2_numberOn_0 : decode cX2_numberOn 0 = .ok (.iload_n 2, 1) := by decide +kernel
theorem dX2_numberOn_1 : decode cX2_numberOn 1 = .ok (.aload_n 0, 1) := by decide +kernel
theorem dX2_numberOn_2 : decode cX2_numberOn 2 = .ok (.getfield 34, 3) := by decide +kernel
theorem dX2_numberOn_5 : decode cX2_numberOn 5 = .ok (.getfield 112, 3) := by decide +kernel
theorem dX2_numberOn_8 : decode cX2_numberOn 8 = .ok (.if_icmp .ne 17, 3) := by decide +kernel
theorem dX2_numberOn_11 : decode cX2_numberOn 11 = .ok (.aload_n 0, 1) := by decide +kernel
theorem dX2_numberOn_12 : decode cX2_numberOn 12 = .ok (.getfield 34, 3) := by decide +kernel
theorem dX2_numberOn_15 : decode cX2_numberOn 15 = .ok (.getfield 76, 3) := by decide +kernel
theorem dX2_numberOn_18 : decode cX2_numberOn 18 = .ok (.iload_n 1, 1) := by decide +kernel
theorem dX2_numberOn_19 : decode cX2_numberOn 19 = .ok (.invokevirtual 58, 3) := by decide +kernel
theorem dX2_numberOn_22 : decode cX2_numberOn 22 = .ok (.goto 18, 3) := by decide +kernel
theorem dX2_numberOn_25 : decode cX2_numberOn 25 = .ok (.aload_n 0, 1) := by decide +kernel
theorem dX2_numberOn_26 : decode cX2_numberOn 26 = .ok (.getfield 34, 3) := by decide +kernel
theorem dX2_numberOn_29 : decode cX2_numberOn 29 = .ok (.getfield 115, 3) := by decide +kernel
theorem dX2_numberOn_32 : decode cX2_numberOn 32 = .ok (.iload_n 1, 1) := by decide +kernel
theorem dX2_numberOn_33 : decode cX2_numberOn 33 = .ok (.iload_n 2, 1) := by decide +kernel
theorem dX2_numberOn_34 : decode cX2_numberOn 34 = .ok (.invokestatic 118, 3) := by decide +kernel
theorem dX2_numberOn_37 : decode cX2_numberOn 37 = .ok (.invokevirtual 58, 3) := by decide +kernel
theorem dX2_numberOn_40 : decode cX2_numberOn 40 = .ok (.istore_n 3, 1) := by decide +kernel
theorem dX2_numberOn_41 : decode cX2_numberOn 41 = .ok (.aload_n 0, 1) := by decide +kernel
theorem dX2_numberOn_42 : decode cX2_numberOn 42 = .ok (.getfield 28, 3) := by decide +kernel
theorem dX2_numberOn_45 : decode cX2_numberOn 45 = .ok (.iload_n 1, 1) := by decide +kernel
theorem dX2_numberOn_46 : decode cX2_numberOn 46 = .ok (.invokevirtual 58, 3) := by decide +kernel
theorem dX2_numberOn_49 : decode cX2_numberOn 49 = .ok (.iload_n 3, 1) := by decide +kernel
theorem dX2_numberOn_50 : decode cX2_numberOn 50 = .ok (.invokestatic 156, 3) := by decide +kernel
theorem dX2_numberOn_53 : decode cX2_numberOn 53 = .ok (.ireturn, 1) := by decide +kernel
theorem dX2_houseWith_0 : decode cX2_houseWith 0 = .ok (.iconst 0, 1) := by decide +kernel
theorem dX2_houseWith_1 : decode cX2_houseWith 1 = .ok (.istore_n 3, 1) := by decide +kernel
theorem dX2_houseWith_2 : decode cX2_houseWith 2 = .ok (.iload_n 3, 1) := by decide +kernel
theorem dX2_houseWith_3 : decode cX2_houseWith 3 = .ok (.aload_n 0, 1) := by decide +kernel
theorem dX2_houseWith_4 : decode cX2_houseWith 4 = .ok (.getfield 22, 3) := by decide +kernel
theorem dX2_houseWith_7 : decode cX2_houseWith 7 = .ok (.if_icmp .ge 21, 3) := by decide +kernel
theorem dX2_houseWith_10 : decode cX2_houseWith 10 = .ok (.aload_n 0, 1) := by decide +kernel
theorem dX2_houseWith_11 : decode cX2_houseWith 11 = .ok (.iload_n 3, 1) := by decide +kernel
theorem dX2_houseWith_12 : decode cX2_houseWith 12 = .ok (.iload_n 2, 1) := by decide +kernel
theorem dX2_houseWith_13 : decode cX2_houseWith 13 = .ok (.invokevirtual 129, 3) := by decide +kernel
theorem dX2_houseWith_16 : decode cX2_houseWith 16 = .ok (.iload_n 1, 1) := by decide +kernel
theorem dX2_houseWith_17 : decode cX2_houseWith 17 = .ok (.if_icmp .ne 5, 3) := by decide +kernel
theorem dX2_houseWith_20 : decode cX2_houseWith 20 = .ok (.iload_n 3, 1) := by decide +kernel
theorem dX2_houseWith_21 : decode cX2_houseWith 21 = .ok (.ireturn, 1) := by decide +kernel
theorem dX2_houseWith_22 : decode cX2_houseWith 22 = .ok (.iinc 3 1, 3) := by decide +kernel
theorem dX2_houseWith_25 : decode cX2_houseWith 25 = .ok (.goto (-23), 3) := by decide +kernel
theorem dX2_houseWith_28 : decode cX2_houseWith 28 = .ok (.iconst (-1), 1) := by decide +kernel
theorem dX2_houseWith_29 : decode cX2_houseWith 29 = .ok (.ireturn, 1) := by decide +kernel
theorem dX2_unlikeNumbers_0 : decode cX2_unlikeNumbers 0 = .ok (.iconst 0, 1) := by decide +kernel
theorem dX2_unlikeNumbers_1 : decode cX2_unlikeNumbers 1 = .ok (.istore_n 1, 1) := by decide +kernel
theorem dX2_unlikeNumbers_2 : decode cX2_unlikeNumbers 2 = .ok (.iconst 0, 1) := by decide +kernel
theorem dX2_unlikeNumbers_3 : decode cX2_unlikeNumbers 3 = .ok (.istore_n 2, 1) := by decide +kernel
theorem dX2_unlikeNumbers_4 : decode cX2_unlikeNumbers 4 = .ok (.iload_n 2, 1) := by decide +kernel
theorem dX2_unlikeNumbers_5 : decode cX2_unlikeNumbers 5 = .ok (.aload_n 0, 1) := by decide +kernel
theorem dX2_unlikeNumbers_6 : decode cX2_unlikeNumbers 6 = .ok (.getfield 22, 3) := by decide +kernel
theorem dX2_unlikeNumbers_9 : decode cX2_unlikeNumbers 9 = .ok (.if_icmp .ge 32, 3) := by decide +kernel
theorem dX2_unlikeNumbers_12 : decode cX2_unlikeNumbers 12 = .ok (.aload_n 0, 1) := by decide +kernel
theorem dX2_unlikeNumbers_13 : decode cX2_unlikeNumbers 13 = .ok (.aload_n 0, 1) := by decide +kernel
theorem dX2_unlikeNumbers_14 : decode cX2_unlikeNumbers 14 = .ok (.iload_n 2, 1) := by decide +kernel
theorem dX2_unlikeNumbers_15 : decode cX2_unlikeNumbers 15 = .ok (.invokevirtual 83, 3) := by decide +kernel
theorem dX2_unlikeNumbers_18 : decode cX2_unlikeNumbers 18 = .ok (.aload_n 0, 1) := by decide +kernel
theorem dX2_unlikeNumbers_19 : decode cX2_unlikeNumbers 19 = .ok (.getfield 34, 3) := by decide +kernel
theorem dX2_unlikeNumbers_22 : decode cX2_unlikeNumbers 22 = .ok (.getfield 112, 3) := by decide +kernel
theorem dX2_unlikeNumbers_25 : decode cX2_unlikeNumbers 25 = .ok (.invokevirtual 132, 3) := by decide +kernel
theorem dX2_unlikeNumbers_28 : decode cX2_unlikeNumbers 28 = .ok (.iload_n 2, 1) := by decide +kernel
theorem dX2_unlikeNumbers_29 : decode cX2_unlikeNumbers 29 = .ok (.if_icmp .ne 6, 3) := by decide +kernel
theorem dX2_unlikeNumbers_32 : decode cX2_unlikeNumbers 32 = .ok (.iinc 1 1, 3) := by decide +kernel
theorem dX2_unlikeNumbers_35 : decode cX2_unlikeNumbers 35 = .ok (.iinc 2 1, 3) := by decide +kernel
theorem dX2_unlikeNumbers_38 : decode cX2_unlikeNumbers 38 = .ok (.goto (-34), 3) := by decide +kernel
theorem dX2_unlikeNumbers_41 : decode cX2_unlikeNumbers 41 = .ok (.iload_n 1, 1) := by decide +kernel
theorem dX2_unlikeNumbers_42 : decode cX2_unlikeNumbers 42 = .ok (.ireturn, 1) := by decide +kernel
theorem dX2_owedBy_0 : decode cX2_owedBy 0 = .ok (.iconst 0, 1) := by decide +kernel
theorem dX2_owedBy_1 : decode cX2_owedBy 1 = .ok (.istore_n 2, 1) := by decide +kernel
theorem dX2_owedBy_2 : decode cX2_owedBy 2 = .ok (.iconst 0, 1) := by decide +kernel
theorem dX2_owedBy_3 : decode cX2_owedBy 3 = .ok (.istore_n 3, 1) := by decide +kernel
theorem dX2_owedBy_4 : decode cX2_owedBy 4 = .ok (.iload_n 3, 1) := by decide +kernel
theorem dX2_owedBy_5 : decode cX2_owedBy 5 = .ok (.aload_n 0, 1) := by decide +kernel
theorem dX2_owedBy_6 : decode cX2_owedBy 6 = .ok (.getfield 34, 3) := by decide +kernel
theorem dX2_owedBy_9 : decode cX2_owedBy 9 = .ok (.getfield 139, 3) := by decide +kernel
theorem dX2_owedBy_12 : decode cX2_owedBy 12 = .ok (.if_icmp .ge 49, 3) := by decide +kernel
theorem dX2_owedBy_15 : decode cX2_owedBy 15 = .ok (.aload_n 0, 1) := by decide +kernel
theorem dX2_owedBy_16 : decode cX2_owedBy 16 = .ok (.aload_n 0, 1) := by decide +kernel
theorem dX2_owedBy_17 : decode cX2_owedBy 17 = .ok (.getfield 34, 3) := by decide +kernel
theorem dX2_owedBy_20 : decode cX2_owedBy 20 = .ok (.getfield 145, 3) := by decide +kernel
theorem dX2_owedBy_23 : decode cX2_owedBy 23 = .ok (.iload_n 3, 1) := by decide +kernel
theorem dX2_owedBy_24 : decode cX2_owedBy 24 = .ok (.invokevirtual 58, 3) := by decide +kernel
theorem dX2_owedBy_27 : decode cX2_owedBy 27 = .ok (.aload_n 0, 1) := by decide +kernel
theorem dX2_owedBy_28 : decode cX2_owedBy 28 = .ok (.getfield 34, 3) := by decide +kernel
theorem dX2_owedBy_31 : decode cX2_owedBy 31 = .ok (.getfield 112, 3) := by decide +kernel
theorem dX2_owedBy_34 : decode cX2_owedBy 34 = .ok (.invokevirtual 132, 3) := by decide +kernel
theorem dX2_owedBy_37 : decode cX2_owedBy 37 = .ok (.iload_n 1, 1) := by decide +kernel
theorem dX2_owedBy_38 : decode cX2_owedBy 38 = .ok (.if_icmp .ne 17, 3) := by decide +kernel
theorem dX2_owedBy_41 : decode cX2_owedBy 41 = .ok (.iload_n 2, 1) := by decide +kernel
theorem dX2_owedBy_42 : decode cX2_owedBy 42 = .ok (.aload_n 0, 1) := by decide +kernel
theorem dX2_owedBy_43 : decode cX2_owedBy 43 = .ok (.getfield 34, 3) := by decide +kernel
theorem dX2_owedBy_46 : decode cX2_owedBy 46 = .ok (.getfield 142, 3) := by decide +kernel
theorem dX2_owedBy_49 : decode cX2_owedBy 49 = .ok (.iload_n 3, 1) := by decide +kernel
theorem dX2_owedBy_50 : decode cX2_owedBy 50 = .ok (.invokevirtual 58, 3) := by decide +kernel
theorem dX2_owedBy_53 : decode cX2_owedBy 53 = .ok (.iadd, 1) := by decide +kernel
theorem dX2_owedBy_54 : decode cX2_owedBy 54 = .ok (.istore_n 2, 1) := by decide +kernel
theorem dX2_owedBy_55 : decode cX2_owedBy 55 = .ok (.iinc 3 1, 3) := by decide +kernel
theorem dX2_owedBy_58 : decode cX2_owedBy 58 = .ok (.goto (-54), 3) := by decide +kernel
theorem dX2_owedBy_61 : decode cX2_owedBy 61 = .ok (.iload_n 2, 1) := by decide +kernel
theorem dX2_owedBy_62 : decode cX2_owedBy 62 = .ok (.ireturn, 1) := by decide +kernel
theorem dX2_owedByAll_0 : decode cX2_owedByAll 0 = .ok (.iconst 0, 1) := by decide +kernel
theorem dX2_owedByAll_1 : decode cX2_owedByAll 1 = .ok (.istore_n 1, 1) := by decide +kernel
theorem dX2_owedByAll_2 : decode cX2_owedByAll 2 = .ok (.iconst 0, 1) := by decide +kernel
theorem dX2_owedByAll_3 : decode cX2_owedByAll 3 = .ok (.istore_n 2, 1) := by decide +kernel
theorem dX2_owedByAll_4 : decode cX2_owedByAll 4 = .ok (.iload_n 2, 1) := by decide +kernel
theorem dX2_owedByAll_5 : decode cX2_owedByAll 5 = .ok (.aload_n 0, 1) := by decide +kernel
theorem dX2_owedByAll_6 : decode cX2_owedByAll 6 = .ok (.getfield 22, 3) := by decide +kernel
theorem dX2_owedByAll_9 : decode cX2_owedByAll 9 = .ok (.if_icmp .ge 17, 3) := by decide +kernel
theorem dX2_owedByAll_12 : decode cX2_owedByAll 12 = .ok (.iload_n 1, 1) := by decide +kernel
theorem dX2_owedByAll_13 : decode cX2_owedByAll 13 = .ok (.aload_n 0, 1) := by decide +kernel
theorem dX2_owedByAll_14 : decode cX2_owedByAll 14 = .ok (.iload_n 2, 1) := by decide +kernel
theorem dX2_owedByAll_15 : decode cX2_owedByAll 15 = .ok (.invokevirtual 89, 3) := by decide +kernel
theorem dX2_owedByAll_18 : decode cX2_owedByAll 18 = .ok (.iadd, 1) := by decide +kernel
theorem dX2_owedByAll_19 : decode cX2_owedByAll 19 = .ok (.istore_n 1, 1) := by decide +kernel
theorem dX2_owedByAll_20 : decode cX2_owedByAll 20 = .ok (.iinc 2 1, 3) := by decide +kernel
theorem dX2_owedByAll_23 : decode cX2_owedByAll 23 = .ok (.goto (-19), 3) := by decide +kernel
theorem dX2_owedByAll_26 : decode cX2_owedByAll 26 = .ok (.iload_n 1, 1) := by decide +kernel
theorem dX2_owedByAll_27 : decode cX2_owedByAll 27 = .ok (.ireturn, 1) := by decide +kernel
theorem dX2_nextSeed_0 : decode cX2_nextSeed 0 = .ok (.ldc2_w 273, 3) := by decide +kernel
theorem dX2_nextSeed_3 : decode cX2_nextSeed 3 = .ok (.iload_n 0, 1) := by decide +kernel
theorem dX2_nextSeed_4 : decode cX2_nextSeed 4 = .ok (.i2l, 1) := by decide +kernel
theorem dX2_nextSeed_5 : decode cX2_nextSeed 5 = .ok (.lmul, 1) := by decide +kernel
theorem dX2_nextSeed_6 : decode cX2_nextSeed 6 = .ok (.ldc2_w 275, 3) := by decide +kernel
theorem dX2_nextSeed_9 : decode cX2_nextSeed 9 = .ok (.ladd, 1) := by decide +kernel
theorem dX2_nextSeed_10 : decode cX2_nextSeed 10 = .ok (.ldc2_w 277, 3) := by decide +kernel
theorem dX2_nextSeed_13 : decode cX2_nextSeed 13 = .ok (.lrem, 1) := by decide +kernel
theorem dX2_nextSeed_14 : decode cX2_nextSeed 14 = .ok (.l2i, 1) := by decide +kernel
theorem dX2_nextSeed_15 : decode cX2_nextSeed 15 = .ok (.ireturn, 1) := by decide +kernel
theorem dX2_drawnHouse_0 : decode cX2_drawnHouse 0 = .ok (.aload_n 0, 1) := by decide +kernel
theorem dX2_drawnHouse_1 : decode cX2_drawnHouse 1 = .ok (.getfield 22, 3) := by decide +kernel
theorem dX2_drawnHouse_4 : decode cX2_drawnHouse 4 = .ok (.iconst 1, 1) := by decide +kernel
theorem dX2_drawnHouse_5 : decode cX2_drawnHouse 5 = .ok (.if_icmp .ge 7, 3) := by decide +kernel
theorem dX2_drawnHouse_8 : decode cX2_drawnHouse 8 = .ok (.iconst 0, 1) := by decide +kernel
theorem dX2_drawnHouse_9 : decode cX2_drawnHouse 9 = .ok (.goto 13, 3) := by decide +kernel
theorem dX2_drawnHouse_12 : decode cX2_drawnHouse 12 = .ok (.iload_n 1, 1) := by decide +kernel
theorem dX2_drawnHouse_13 : decode cX2_drawnHouse 13 = .ok (.ldc_w 279, 3) := by decide +kernel
theorem dX2_drawnHouse_16 : decode cX2_drawnHouse 16 = .ok (.idiv, 1) := by decide +kernel
theorem dX2_drawnHouse_17 : decode cX2_drawnHouse 17 = .ok (.aload_n 0, 1) := by decide +kernel
theorem dX2_drawnHouse_18 : decode cX2_drawnHouse 18 = .ok (.getfield 22, 3) := by decide +kernel
theorem dX2_drawnHouse_21 : decode cX2_drawnHouse 21 = .ok (.irem, 1) := by decide +kernel
theorem dX2_drawnHouse_22 : decode cX2_drawnHouse 22 = .ok (.ireturn, 1) := by decide +kernel
theorem dJ9_abs_0f7a4_0 : decode cJ9_abs_0f7a4 0 = .ok (.iload_n 0, 1) := by decide +kernel
theorem dJ9_abs_0f7a4_1 : decode cJ9_abs_0f7a4 1 = .ok (.ifCond .ge 8, 3) := by decide +kernel
theorem dJ9_abs_0f7a4_4 : decode cJ9_abs_0f7a4 4 = .ok (.iload_n 0, 1) := by decide +kernel
theorem dJ9_abs_0f7a4_5 : decode cJ9_abs_0f7a4 5 = .ok (.ineg, 1) := by decide +kernel
theorem dJ9_abs_0f7a4_6 : decode cJ9_abs_0f7a4 6 = .ok (.goto 4, 3) := by decide +kernel
theorem dJ9_abs_0f7a4_9 : decode cJ9_abs_0f7a4 9 = .ok (.iload_n 0, 1) := by decide +kernel
theorem dJ9_abs_0f7a4_10 : decode cJ9_abs_0f7a4 10 = .ok (.ireturn, 1) := by decide +kernel
theorem dJ0_length_8abf5_0 : decode cJ0_length_8abf5 0 = .ok (.aload_n 0, 1) := by decide +kernel
theorem dJ0_length_8abf5_1 : decode cJ0_length_8abf5 1 = .ok (.getfield 9, 3) := by decide +kernel
theorem dJ0_length_8abf5_4 : decode cJ0_length_8abf5 4 = .ok (.arraylength, 1) := by decide +kernel
theorem dJ0_length_8abf5_5 : decode cJ0_length_8abf5 5 = .ok (.aload_n 0, 1) := by decide +kernel
theorem dJ0_length_8abf5_6 : decode cJ0_length_8abf5 6 = .ok (.invokevirtual 335, 3) := by decide +kernel
theorem dJ0_length_8abf5_9 : decode cJ0_length_8abf5 9 = .ok (.ishr, 1) := by decide +kernel
theorem dJ0_length_8abf5_10 : decode cJ0_length_8abf5 10 = .ok (.ireturn, 1) := by decide +kernel
theorem dJ0_charAt_5068e_0 : decode cJ0_charAt_5068e 0 = .ok (.aload_n 0, 1) := by decide +kernel
theorem dJ0_charAt_5068e_1 : decode cJ0_charAt_5068e 1 = .ok (.invokevirtual 492, 3) := by decide +kernel
theorem dJ0_charAt_5068e_4 : decode cJ0_charAt_5068e 4 = .ok (.ifCond .eq 12, 3) := by decide +kernel
theorem dJ0_charAt_5068e_7 : decode cJ0_charAt_5068e 7 = .ok (.aload_n 0, 1) := by decide +kernel
theorem dJ0_charAt_5068e_8 : decode cJ0_charAt_5068e 8 = .ok (.getfield 9, 3) := by decide +kernel
theorem dJ0_charAt_5068e_11 : decode cJ0_charAt_5068e 11 = .ok (.iload_n 1, 1) := by decide +kernel
theorem dJ0_charAt_5068e_12 : decode cJ0_charAt_5068e 12 = .ok (.invokestatic 495, 3) := by decide +kernel
theorem dJ0_charAt_5068e_15 : decode cJ0_charAt_5068e 15 = .ok (.ireturn, 1) := by decide +kernel
theorem dJ0_charAt_5068e_16 : decode cJ0_charAt_5068e 16 = .ok (.aload_n 0, 1) := by decide +kernel
theorem dJ0_charAt_5068e_17 : decode cJ0_charAt_5068e 17 = .ok (.getfield 9, 3) := by decide +kernel
theorem dJ0_charAt_5068e_20 : decode cJ0_charAt_5068e 20 = .ok (.iload_n 1, 1) := by decide +kernel
theorem dJ0_charAt_5068e_21 : decode cJ0_charAt_5068e 21 = .ok (.invokestatic 498, 3) := by decide +kernel
theorem dJ0_charAt_5068e_24 : decode cJ0_charAt_5068e 24 = .ok (.ireturn, 1) := by decide +kernel
theorem dJ0_coder_7d493_0 : decode cJ0_coder_7d493 0 = .ok (.getstatic 38, 3) := by decide +kernel
theorem dJ0_coder_7d493_3 : decode cJ0_coder_7d493 3 = .ok (.ifCond .eq 10, 3) := by decide +kernel
theorem dJ0_coder_7d493_6 : decode cJ0_coder_7d493 6 = .ok (.aload_n 0, 1) := by decide +kernel
theorem dJ0_coder_7d493_7 : decode cJ0_coder_7d493 7 = .ok (.getfield 15, 3) := by decide +kernel
theorem dJ0_coder_7d493_10 : decode cJ0_coder_7d493 10 = .ok (.goto 4, 3) := by decide +kernel
theorem dJ0_coder_7d493_13 : decode cJ0_coder_7d493 13 = .ok (.iconst 1, 1) := by decide +kernel
theorem dJ0_coder_7d493_14 : decode cJ0_coder_7d493 14 = .ok (.ireturn, 1) := by decide +kernel
theorem dJ0_isLatin1_aae02_0 : decode cJ0_isLatin1_aae02 0 = .ok (.getstatic 38, 3) := by decide +kernel
theorem dJ0_isLatin1_aae02_3 : decode cJ0_isLatin1_aae02 3 = .ok (.ifCond .eq 14, 3) := by decide +kernel
theorem dJ0_isLatin1_aae02_6 : decode cJ0_isLatin1_aae02 6 = .ok (.aload_n 0, 1) := by decide +kernel
theorem dJ0_isLatin1_aae02_7 : decode cJ0_isLatin1_aae02 7 = .ok (.getfield 15, 3) := by decide +kernel
theorem dJ0_isLatin1_aae02_10 : decode cJ0_isLatin1_aae02 10 = .ok (.ifCond .ne 7, 3) := by decide +kernel
theorem dJ0_isLatin1_aae02_13 : decode cJ0_isLatin1_aae02 13 = .ok (.iconst 1, 1) := by decide +kernel
theorem dJ0_isLatin1_aae02_14 : decode cJ0_isLatin1_aae02 14 = .ok (.goto 4, 3) := by decide +kernel
theorem dJ0_isLatin1_aae02_17 : decode cJ0_isLatin1_aae02 17 = .ok (.iconst 0, 1) := by decide +kernel
theorem dJ0_isLatin1_aae02_18 : decode cJ0_isLatin1_aae02 18 = .ok (.ireturn, 1) := by decide +kernel
theorem dJ0_checkIndex_df160_0 : decode cJ0_checkIndex_df160 0 = .ok (.iload_n 0, 1) := by decide +kernel
theorem dJ0_checkIndex_df160_1 : decode cJ0_checkIndex_df160 1 = .ok (.iload_n 1, 1) := by decide +kernel
theorem dJ0_checkIndex_df160_2 : decode cJ0_checkIndex_df160 2 = .ok (.getstatic 1053, 3) := by decide +kernel
theorem dJ0_checkIndex_df160_5 : decode cJ0_checkIndex_df160 5 = .ok (.invokestatic 1059, 3) := by decide +kernel
theorem dJ0_checkIndex_df160_8 : decode cJ0_checkIndex_df160 8 = .ok (.pop, 1) := by decide +kernel
theorem dJ0_checkIndex_df160_9 : decode cJ0_checkIndex_df160 9 = .ok (.return_, 1) := by decide +kernel
theorem dJ1_charAt_3b067_0 : decode cJ1_charAt_3b067 0 = .ok (.iload_n 1, 1) := by decide +kernel
theorem dJ1_charAt_3b067_1 : decode cJ1_charAt_3b067 1 = .ok (.aload_n 0, 1) := by decide +kernel
theorem dJ1_charAt_3b067_2 : decode cJ1_charAt_3b067 2 = .ok (.arraylength, 1) := by decide +kernel
theorem dJ1_charAt_3b067_3 : decode cJ1_charAt_3b067 3 = .ok (.invokestatic 9, 3) := by decide +kernel
theorem dJ1_charAt_3b067_6 : decode cJ1_charAt_3b067 6 = .ok (.aload_n 0, 1) := by decide +kernel
theorem dJ1_charAt_3b067_7 : decode cJ1_charAt_3b067 7 = .ok (.iload_n 1, 1) := by decide +kernel
theorem dJ1_charAt_3b067_8 : decode cJ1_charAt_3b067 8 = .ok (.baload, 1) := by decide +kernel
theorem dJ1_charAt_3b067_9 : decode cJ1_charAt_3b067 9 = .ok (.sipush 255, 3) := by decide +kernel
theorem dJ1_charAt_3b067_12 : decode cJ1_charAt_3b067 12 = .ok (.iand, 1) := by decide +kernel
theorem dJ1_charAt_3b067_13 : decode cJ1_charAt_3b067 13 = .ok (.i2c, 1) := by decide +kernel
theorem dJ1_charAt_3b067_14 : decode cJ1_charAt_3b067 14 = .ok (.ireturn, 1) := by decide +kernel
theorem dJ2_getChar_3b067_0 : decode cJ2_getChar_3b067 0 = .ok (.getstatic 44, 3) := by decide +kernel
theorem dJ2_getChar_3b067_3 : decode cJ2_getChar_3b067 3 = .ok (.ifCond .ne 25, 3) := by decide +kernel
theorem dJ2_getChar_3b067_6 : decode cJ2_getChar_3b067 6 = .ok (.iload_n 1, 1) := by decide +kernel
theorem dJ2_getChar_3b067_7 : decode cJ2_getChar_3b067 7 = .ok (.ifCond .lt 11, 3) := by decide +kernel
theorem dJ2_getChar_3b067_10 : decode cJ2_getChar_3b067 10 = .ok (.iload_n 1, 1) := by decide +kernel
theorem dJ2_getChar_3b067_11 : decode cJ2_getChar_3b067 11 = .ok (.aload_n 0, 1) := by decide +kernel
theorem dJ2_getChar_3b067_12 : decode cJ2_getChar_3b067 12 = .ok (.invokestatic 48, 3) := by decide +kernel
theorem dJ2_getChar_3b067_15 : decode cJ2_getChar_3b067 15 = .ok (.if_icmp .lt 13, 3) := by decide +kernel
theorem dJ2_getChar_3b067_18 : decode cJ2_getChar_3b067 18 = .ok (.new 52, 3) := by decide +kernel
theorem dJ2_getChar_3b067_21 : decode cJ2_getChar_3b067 21 = .ok (.dup, 1) := by decide +kernel
theorem dJ2_getChar_3b067_22 : decode cJ2_getChar_3b067 22 = .ok (.ldc 54, 2) := by decide +kernel
theorem dJ2_getChar_3b067_24 : decode cJ2_getChar_3b067 24 = .ok (.invokespecial 56, 3) := by decide +kernel
theorem dJ2_getChar_3b067_27 : decode cJ2_getChar_3b067 27 = .ok (.athrow, 1) := by decide +kernel
theorem dJ2_getChar_3b067_28 : decode cJ2_getChar_3b067 28 = .ok (.iload_n 1, 1) := by decide +kernel
theorem dJ2_getChar_3b067_29 : decode cJ2_getChar_3b067 29 = .ok (.iconst 1, 1) := by decide +kernel
theorem dJ2_getChar_3b067_30 : decode cJ2_getChar_3b067 30 = .ok (.ishl, 1) := by decide +kernel
theorem dJ2_getChar_3b067_31 : decode cJ2_getChar_3b067 31 = .ok (.istore_n 1, 1) := by decide +kernel
theorem dJ2_getChar_3b067_32 : decode cJ2_getChar_3b067 32 = .ok (.aload_n 0, 1) := by decide +kernel
theorem dJ2_getChar_3b067_33 : decode cJ2_getChar_3b067 33 = .ok (.iload_n 1, 1) := by decide +kernel
theorem dJ2_getChar_3b067_34 : decode cJ2_getChar_3b067 34 = .ok (.iinc 1 1, 3) := by decide +kernel
theorem dJ2_getChar_3b067_37 : decode cJ2_getChar_3b067 37 = .ok (.baload, 1) := by decide +kernel
theorem dJ2_getChar_3b067_38 : decode cJ2_getChar_3b067 38 = .ok (.sipush 255, 3) := by decide +kernel
theorem dJ2_getChar_3b067_41 : decode cJ2_getChar_3b067 41 = .ok (.iand, 1) := by decide +kernel
theorem dJ2_getChar_3b067_42 : decode cJ2_getChar_3b067 42 = .ok (.getstatic 59, 3) := by decide +kernel
theorem dJ2_getChar_3b067_45 : decode cJ2_getChar_3b067 45 = .ok (.ishl, 1) := by decide +kernel
theorem dJ2_getChar_3b067_46 : decode cJ2_getChar_3b067 46 = .ok (.aload_n 0, 1) := by decide +kernel
theorem dJ2_getChar_3b067_47 : decode cJ2_getChar_3b067 47 = .ok (.iload_n 1, 1) := by decide +kernel
theorem dJ2_getChar_3b067_48 : decode cJ2_getChar_3b067 48 = .ok (.baload, 1) := by decide +kernel
theorem dJ2_getChar_3b067_49 : decode cJ2_getChar_3b067 49 = .ok (.sipush 255, 3) := by decide +kernel
theorem dJ2_getChar_3b067_52 : decode cJ2_getChar_3b067 52 = .ok (.iand, 1) := by decide +kernel
theorem dJ2_getChar_3b067_53 : decode cJ2_getChar_3b067 53 = .ok (.getstatic 63, 3) := by decide +kernel
theorem dJ2_getChar_3b067_56 : decode cJ2_getChar_3b067 56 = .ok (.ishl, 1) := by decide +kernel
theorem dJ2_getChar_3b067_57 : decode cJ2_getChar_3b067 57 = .ok (.ior, 1) := by decide +kernel
theorem dJ2_getChar_3b067_58 : decode cJ2_getChar_3b067 58 = .ok (.i2c, 1) := by decide +kernel
theorem dJ2_getChar_3b067_59 : decode cJ2_getChar_3b067 59 = .ok (.ireturn, 1) := by decide +kernel
theorem dJ2_length_9d52b_0 : decode cJ2_length_9d52b 0 = .ok (.aload_n 0, 1) := by decide +kernel
theorem dJ2_length_9d52b_1 : decode cJ2_length_9d52b 1 = .ok (.arraylength, 1) := by decide +kernel
theorem dJ2_length_9d52b_2 : decode cJ2_length_9d52b 2 = .ok (.iconst 1, 1) := by decide +kernel
theorem dJ2_length_9d52b_3 : decode cJ2_length_9d52b 3 = .ok (.ishr, 1) := by decide +kernel
theorem dJ2_length_9d52b_4 : decode cJ2_length_9d52b 4 = .ok (.ireturn, 1) := by decide +kernel
theorem dJ2_charAt_3b067_0 : decode cJ2_charAt_3b067 0 = .ok (.iload_n 1, 1) := by decide +kernel
theorem dJ2_charAt_3b067_1 : decode cJ2_charAt_3b067 1 = .ok (.aload_n 0, 1) := by decide +kernel
theorem dJ2_charAt_3b067_2 : decode cJ2_charAt_3b067 2 = .ok (.invokestatic 67, 3) := by decide +kernel
theorem dJ2_charAt_3b067_5 : decode cJ2_charAt_3b067 5 = .ok (.aload_n 0, 1) := by decide +kernel
theorem dJ2_charAt_3b067_6 : decode cJ2_charAt_3b067 6 = .ok (.iload_n 1, 1) := by decide +kernel
theorem dJ2_charAt_3b067_7 : decode cJ2_charAt_3b067 7 = .ok (.invokestatic 71, 3) := by decide +kernel
theorem dJ2_charAt_3b067_10 : decode cJ2_charAt_3b067 10 = .ok (.ireturn, 1) := by decide +kernel
theorem dJ2_checkIndex_2214a_0 : decode cJ2_checkIndex_2214a 0 = .ok (.iload_n 0, 1) := by decide +kernel
theorem dJ2_checkIndex_2214a_1 : decode cJ2_checkIndex_2214a 1 = .ok (.aload_n 1, 1) := by decide +kernel
theorem dJ2_checkIndex_2214a_2 : decode cJ2_checkIndex_2214a 2 = .ok (.invokestatic 48, 3) := by decide +kernel
theorem dJ2_checkIndex_2214a_5 : decode cJ2_checkIndex_2214a 5 = .ok (.invokestatic 414, 3) := by decide +kernel
theorem dJ2_checkIndex_2214a_8 : decode cJ2_checkIndex_2214a 8 = .ok (.return_, 1) := by decide +kernel
theorem dJ3_checkIndex_8e157_0 : decode cJ3_checkIndex_8e157 0 = .ok (.iload_n 0, 1) := by decide +kernel
theorem dJ3_checkIndex_8e157_1 : decode cJ3_checkIndex_8e157 1 = .ok (.ifCond .lt 8, 3) := by decide +kernel
theorem dJ3_checkIndex_8e157_4 : decode cJ3_checkIndex_8e157 4 = .ok (.iload_n 0, 1) := by decide +kernel
theorem dJ3_checkIndex_8e157_5 : decode cJ3_checkIndex_8e157 5 = .ok (.iload_n 1, 1) := by decide +kernel
theorem dJ3_checkIndex_8e157_6 : decode cJ3_checkIndex_8e157 6 = .ok (.if_icmp .lt 10, 3) := by decide +kernel
theorem dJ3_checkIndex_8e157_9 : decode cJ3_checkIndex_8e157 9 = .ok (.aload_n 2, 1) := by decide +kernel
theorem dJ3_checkIndex_8e157_10 : decode cJ3_checkIndex_8e157 10 = .ok (.iload_n 0, 1) := by decide +kernel
theorem dJ3_checkIndex_8e157_11 : decode cJ3_checkIndex_8e157 11 = .ok (.iload_n 1, 1) := by decide +kernel
theorem dJ3_checkIndex_8e157_12 : decode cJ3_checkIndex_8e157 12 = .ok (.invokestatic 95, 3) := by decide +kernel
theorem dJ3_checkIndex_8e157_15 : decode cJ3_checkIndex_8e157 15 = .ok (.athrow, 1) := by decide +kernel
theorem dJ3_checkIndex_8e157_16 : decode cJ3_checkIndex_8e157 16 = .ok (.iload_n 0, 1) := by decide +kernel
theorem dJ3_checkIndex_8e157_17 : decode cJ3_checkIndex_8e157 17 = .ok (.ireturn, 1) := by decide +kernel
end
section
theorem dL_cell_0 : decode cL_cell 0 = .ok (.iload_n 1, 1) := by decide +kernel
theorem dL_cell_1 : decode cL_cell 1 = .ok (.aload_n 0, 1) := by decide +kernel
theorem dL_cell_2 : decode cL_cell 2 = .ok (.arraylength, 1) := by decide +kernel
theorem dL_cell_3 : decode cL_cell 3 = .ok (.if_icmp .ge 9, 3) := by decide +kernel
theorem dL_cell_6 : decode cL_cell 6 = .ok (.aload_n 0, 1) := by decide +kernel
theorem dL_cell_7 : decode cL_cell 7 = .ok (.iload_n 1, 1) := by decide +kernel
theorem dL_cell_8 : decode cL_cell 8 = .ok (.iaload, 1) := by decide +kernel
theorem dL_cell_9 : decode cL_cell 9 = .ok (.goto 11, 3) := by decide +kernel
theorem dL_cell_12 : decode cL_cell 12 = .ok (.sipush 7919, 3) := by decide +kernel
theorem dL_cell_15 : decode cL_cell 15 = .ok (.iload_n 1, 1) := by decide +kernel
theorem dL_cell_16 : decode cL_cell 16 = .ok (.imul, 1) := by decide +kernel
theorem dL_cell_17 : decode cL_cell 17 = .ok (.bipush 13, 2) := by decide +kernel
theorem dL_cell_19 : decode cL_cell 19 = .ok (.iadd, 1) := by decide +kernel
theorem dL_cell_20 : decode cL_cell 20 = .ok (.ldc 7, 2) := by decide +kernel
theorem dL_cell_22 : decode cL_cell 22 = .ok (.iand, 1) := by decide +kernel
theorem dL_cell_23 : decode cL_cell 23 = .ok (.ireturn, 1) := by decide +kernel
theorem dL_put_0 : decode cL_put 0 = .ok (.aload_n 0, 1) := by decide +kernel
theorem dL_put_1 : decode cL_put 1 = .ok (.iload_n 1, 1) := by decide +kernel
theorem dL_put_2 : decode cL_put 2 = .ok (.invokevirtual 8, 3) := by decide +kernel
theorem dL_put_5 : decode cL_put 5 = .ok (.ifCond .le 7, 3) := by decide +kernel
theorem dL_put_8 : decode cL_put 8 = .ok (.iconst 1, 1) := by decide +kernel
theorem dL_put_9 : decode cL_put 9 = .ok (.goto 4, 3) := by decide +kernel
theorem dL_put_12 : decode cL_put 12 = .ok (.iconst 0, 1) := by decide +kernel
theorem dL_put_13 : decode cL_put 13 = .ok (.ireturn, 1) := by decide +kernel
theorem dL_street_0 : decode cL_street 0 = .ok (.iconst 1, 1) := by decide +kernel
theorem dL_street_1 : decode cL_street 1 = .ok (.istore 4, 2) := by decide +kernel
theorem dL_street_3 : decode cL_street 3 = .ok (.aload_n 3, 1) := by decide +kernel
theorem dL_street_4 : decode cL_street 4 = .ok (.iconst 0, 1) := by decide +kernel
theorem dL_street_5 : decode cL_street 5 = .ok (.iconst 2, 1) := by decide +kernel
theorem dL_street_6 : decode cL_street 6 = .ok (.iload_n 1, 1) := by decide +kernel
theorem dL_street_7 : decode cL_street 7 = .ok (.iconst 5, 1) := by decide +kernel
theorem dL_street_8 : decode cL_street 8 = .ok (.irem, 1) := by decide +kernel
theorem dL_street_9 : decode cL_street 9 = .ok (.iadd, 1) := by decide +kernel
theorem dL_street_10 : decode cL_street 10 = .ok (.iastore, 1) := by decide +kernel
theorem dL_street_11 : decode cL_street 11 = .ok (.aload_n 3, 1) := by decide +kernel
theorem dL_street_12 : decode cL_street 12 = .ok (.iconst 1, 1) := by decide +kernel
theorem dL_street_13 : decode cL_street 13 = .ok (.iconst 0, 1) := by decide +kernel
theorem dL_street_14 : decode cL_street 14 = .ok (.iastore, 1) := by decide +kernel
theorem dL_street_15 : decode cL_street 15 = .ok (.aload_n 3, 1) := by decide +kernel
theorem dL_street_16 : decode cL_street 16 = .ok (.iconst 2, 1) := by decide +kernel
theorem dL_street_17 : decode cL_street 17 = .ok (.iconst 0, 1) := by decide +kernel
theorem dL_street_18 : decode cL_street 18 = .ok (.iastore, 1) := by decide +kernel
theorem dL_street_19 : decode cL_street 19 = .ok (.iconst 0, 1) := by decide +kernel
theorem dL_street_20 : decode cL_street 20 = .ok (.istore 5, 2) := by decide +kernel
theorem dL_street_22 : decode cL_street 22 = .ok (.iload 5, 2) := by decide +kernel
theorem dL_street_24 : decode cL_street 24 = .ok (.aload_n 3, 1) := by decide +kernel
theorem dL_street_25 : decode cL_street 25 = .ok (.iconst 0, 1) := by decide +kernel
theorem dL_street_26 : decode cL_street 26 = .ok (.iaload, 1) := by decide +kernel
theorem dL_street_27 : decode cL_street 27 = .ok (.if_icmp .ge 159, 3) := by decide +kernel
theorem dL_street_30 : decode cL_street 30 = .ok (.iload_n 1, 1) := by decide +kernel
theorem dL_street_31 : decode cL_street 31 = .ok (.iconst 3, 1) := by decide +kernel
theorem dL_street_32 : decode cL_street 32 = .ok (.iconst 4, 1) := by decide +kernel
theorem dL_street_33 : decode cL_street 33 = .ok (.iload 5, 2) := by decide +kernel
theorem dL_street_35 : decode cL_street 35 = .ok (.imul, 1) := by decide +kernel
theorem dL_street_36 : decode cL_street 36 = .ok (.iadd, 1) := by decide +kernel
theorem dL_street_37 : decode cL_street 37 = .ok (.ishr, 1) := by decide +kernel
theorem dL_street_38 : decode cL_street 38 = .ok (.bipush 15, 2) := by decide +kernel
theorem dL_street_40 : decode cL_street 40 = .ok (.iand, 1) := by decide +kernel
theorem dL_street_41 : decode cL_street 41 = .ok (.iconst 5, 1) := by decide +kernel
theorem dL_street_42 : decode cL_street 42 = .ok (.irem, 1) := by decide +kernel
theorem dL_street_43 : decode cL_street 43 = .ok (.istore 6, 2) := by decide +kernel
theorem dL_street_45 : decode cL_street 45 = .ok (.aload_n 3, 1) := by decide +kernel
theorem dL_street_46 : decode cL_street 46 = .ok (.iconst 3, 1) := by decide +kernel
theorem dL_street_47 : decode cL_street 47 = .ok (.iconst 3, 1) := by decide +kernel
theorem dL_street_48 : decode cL_street 48 = .ok (.iload 5, 2) := by decide +kernel
theorem dL_street_50 : decode cL_street 50 = .ok (.imul, 1) := by decide +kernel
theorem dL_street_51 : decode cL_street 51 = .ok (.iadd, 1) := by decide +kernel
theorem dL_street_52 : decode cL_street 52 = .ok (.iload 6, 2) := by decide +kernel
theorem dL_street_54 : decode cL_street 54 = .ok (.iastore, 1) := by decide +kernel
theorem dL_street_55 : decode cL_street 55 = .ok (.aload_n 3, 1) := by decide +kernel
theorem dL_street_56 : decode cL_street 56 = .ok (.iconst 4, 1) := by decide +kernel
theorem dL_street_57 : decode cL_street 57 = .ok (.iconst 3, 1) := by decide +kernel
theorem dL_street_58 : decode cL_street 58 = .ok (.iload 5, 2) := by decide +kernel
theorem dL_street_60 : decode cL_street 60 = .ok (.imul, 1) := by decide +kernel
theorem dL_street_61 : decode cL_street 61 = .ok (.iadd, 1) := by decide +kernel
theorem dL_street_62 : decode cL_street 62 = .ok (.iload_n 2, 1) := by decide +kernel
theorem dL_street_63 : decode cL_street 63 = .ok (.iconst 4, 1) := by decide +kernel
theorem dL_street_64 : decode cL_street 64 = .ok (.iload 5, 2) := by decide +kernel
theorem dL_street_66 : decode cL_street 66 = .ok (.imul, 1) := by decide +kernel
theorem dL_street_67 : decode cL_street 67 = .ok (.ishr, 1) := by decide +kernel
theorem dL_street_68 : decode cL_street 68 = .ok (.bipush 15, 2) := by decide +kernel
theorem dL_street_70 : decode cL_street 70 = .ok (.iand, 1) := by decide +kernel
theorem dL_street_71 : decode cL_street 71 = .ok (.bipush 10, 2) := by decide +kernel
theorem dL_street_73 : decode cL_street 73 = .ok (.irem, 1) := by decide +kernel
theorem dL_street_74 : decode cL_street 74 = .ok (.iastore, 1) := by decide +kernel
theorem dL_street_75 : decode cL_street 75 = .ok (.aload_n 3, 1) := by decide +kernel
theorem dL_street_76 : decode cL_street 76 = .ok (.iconst 5, 1) := by decide +kernel
theorem dL_street_77 : decode cL_street 77 = .ok (.iconst 3, 1) := by decide +kernel
theorem dL_street_78 : decode cL_street 78 = .ok (.iload 5, 2) := by decide +kernel
theorem dL_street_80 : decode cL_street 80 = .ok (.imul, 1) := by decide +kernel
theorem dL_street_81 : decode cL_street 81 = .ok (.iadd, 1) := by decide +kernel
theorem dL_street_82 : decode cL_street 82 = .ok (.iconst 0, 1) := by decide +kernel
theorem dL_street_83 : decode cL_street 83 = .ok (.iastore, 1) := by decide +kernel
theorem dL_street_84 : decode cL_street 84 = .ok (.iload 4, 2) := by decide +kernel
theorem dL_street_86 : decode cL_street 86 = .ok (.ifCond .eq 91, 3) := by decide +kernel
theorem dL_street_89 : decode cL_street 89 = .ok (.iload 5, 2) := by decide +kernel
theorem dL_street_91 : decode cL_street 91 = .ok (.ifCond .eq 12, 3) := by decide +kernel
theorem dL_street_94 : decode cL_street 94 = .ok (.aload_n 0, 1) := by decide +kernel
theorem dL_street_95 : decode cL_street 95 = .ok (.bipush 44, 2) := by decide +kernel
theorem dL_street_97 : decode cL_street 97 = .ok (.invokestatic 14, 3) := by decide +kernel
theorem dL_street_100 : decode cL_street 100 = .ok (.ifCond .eq 77, 3) := by decide +kernel
theorem dL_street_103 : decode cL_street 103 = .ok (.aload_n 0, 1) := by decide +kernel
theorem dL_street_104 : decode cL_street 104 = .ok (.iload 6, 2) := by decide +kernel
theorem dL_street_106 : decode cL_street 106 = .ok (.ifCond .ne 8, 3) := by decide +kernel
theorem dL_street_109 : decode cL_street 109 = .ok (.bipush 104, 2) := by decide +kernel
theorem dL_street_111 : decode cL_street 111 = .ok (.goto 38, 3) := by decide +kernel
theorem dL_street_114 : decode cL_street 114 = .ok (.iload 6, 2) := by decide +kernel
theorem dL_street_116 : decode cL_street 116 = .ok (.iconst 1, 1) := by decide +kernel
theorem dL_street_117 : decode cL_street 117 = .ok (.if_icmp .ne 8, 3) := by decide +kernel
theorem dL_street_120 : decode cL_street 120 = .ok (.bipush 116, 2) := by decide +kernel
theorem dL_street_122 : decode cL_street 122 = .ok (.goto 27, 3) := by decide +kernel
theorem dL_street_125 : decode cL_street 125 = .ok (.iload 6, 2) := by decide +kernel
theorem dL_street_127 : decode cL_street 127 = .ok (.iconst 2, 1) := by decide +kernel
theorem dL_street_128 : decode cL_street 128 = .ok (.if_icmp .ne 8, 3) := by decide +kernel
theorem dL_street_131 : decode cL_street 131 = .ok (.bipush 109, 2) := by decide +kernel
theorem dL_street_133 : decode cL_street 133 = .ok (.goto 16, 3) := by decide +kernel
theorem dL_street_136 : decode cL_street 136 = .ok (.iload 6, 2) := by decide +kernel
theorem dL_street_138 : decode cL_street 138 = .ok (.iconst 3, 1) := by decide +kernel
theorem dL_street_139 : decode cL_street 139 = .ok (.if_icmp .ne 8, 3) := by decide +kernel
theorem dL_street_142 : decode cL_street 142 = .ok (.bipush 99, 2) := by decide +kernel
theorem dL_street_144 : decode cL_street 144 = .ok (.goto 5, 3) := by decide +kernel
theorem dL_street_147 : decode cL_street 147 = .ok (.bipush 98, 2) := by decide +kernel
theorem dL_street_149 : decode cL_street 149 = .ok (.invokestatic 14, 3) := by decide +kernel
theorem dL_street_152 : decode cL_street 152 = .ok (.ifCond .eq 25, 3) := by decide +kernel
theorem dL_street_155 : decode cL_street 155 = .ok (.aload_n 0, 1) := by decide +kernel
theorem dL_street_156 : decode cL_street 156 = .ok (.bipush 48, 2) := by decide +kernel
theorem dL_street_158 : decode cL_street 158 = .ok (.aload_n 3, 1) := by decide +kernel
theorem dL_street_159 : decode cL_street 159 = .ok (.iconst 4, 1) := by decide +kernel
theorem dL_street_160 : decode cL_street 160 = .ok (.iconst 3, 1) := by decide +kernel
theorem dL_street_161 : decode cL_street 161 = .ok (.iload 5, 2) := by decide +kernel
theorem dL_street_163 : decode cL_street 163 = .ok (.imul, 1) := by decide +kernel
theorem dL_street_164 : decode cL_street 164 = .ok (.iadd, 1) := by decide +kernel
theorem dL_street_165 : decode cL_street 165 = .ok (.iaload, 1) := by decide +kernel
theorem dL_street_166 : decode cL_street 166 = .ok (.iadd, 1) := by decide +kernel
theorem dL_street_167 : decode cL_street 167 = .ok (.invokestatic 14, 3) := by decide +kernel
theorem dL_street_170 : decode cL_street 170 = .ok (.ifCond .eq 7, 3) := by decide +kernel
theorem dL_street_173 : decode cL_street 173 = .ok (.iconst 1, 1) := by decide +kernel
theorem dL_street_174 : decode cL_street 174 = .ok (.goto 4, 3) := by decide +kernel
theorem dL_street_177 : decode cL_street 177 = .ok (.iconst 0, 1) := by decide +kernel
theorem dL_street_178 : decode cL_street 178 = .ok (.istore 4, 2) := by decide +kernel
theorem dL_street_180 : decode cL_street 180 = .ok (.iinc 5 1, 3) := by decide +kernel
theorem dL_street_183 : decode cL_street 183 = .ok (.goto (-161), 3) := by decide +kernel
theorem dL_street_186 : decode cL_street 186 = .ok (.iload 4, 2) := by decide +kernel
theorem dL_street_188 : decode cL_street 188 = .ok (.ifCond .eq 31, 3) := by decide +kernel
theorem dL_street_191 : decode cL_street 191 = .ok (.aload_n 0, 1) := by decide +kernel
theorem dL_street_192 : decode cL_street 192 = .ok (.invokevirtual 20, 3) := by decide +kernel
theorem dL_street_195 : decode cL_street 195 = .ok (.iconst 3, 1) := by decide +kernel
theorem dL_street_196 : decode cL_street 196 = .ok (.aload_n 3, 1) := by decide +kernel
theorem dL_street_197 : decode cL_street 197 = .ok (.iconst 0, 1) := by decide +kernel
theorem dL_street_198 : decode cL_street 198 = .ok (.iaload, 1) := by decide +kernel
theorem dL_street_199 : decode cL_street 199 = .ok (.imul, 1) := by decide +kernel
theorem dL_street_200 : decode cL_street 200 = .ok (.iconst 1, 1) := by decide +kernel
theorem dL_street_201 : decode cL_street 201 = .ok (.isub, 1) := by decide +kernel
theorem dL_street_202 : decode cL_street 202 = .ok (.if_icmp .ne 17, 3) := by decide +kernel
theorem dL_street_205 : decode cL_street 205 = .ok (.aload_n 0, 1) := by decide +kernel
theorem dL_street_206 : decode cL_street 206 = .ok (.invokevirtual 24, 3) := by decide +kernel
theorem dL_street_209 : decode cL_street 209 = .ok (.aload_n 3, 1) := by decide +kernel
theorem dL_street_210 : decode cL_street 210 = .ok (.iconst 0, 1) := by decide +kernel
theorem dL_street_211 : decode cL_street 211 = .ok (.iaload, 1) := by decide +kernel
theorem dL_street_212 : decode cL_street 212 = .ok (.if_icmp .ne 7, 3) := by decide +kernel
theorem dL_street_215 : decode cL_street 215 = .ok (.iconst 1, 1) := by decide +kernel
theorem dL_street_216 : decode cL_street 216 = .ok (.goto 4, 3) := by decide +kernel
theorem dL_street_219 : decode cL_street 219 = .ok (.iconst 0, 1) := by decide +kernel
theorem dL_street_220 : decode cL_street 220 = .ok (.ireturn, 1) := by decide +kernel
theorem dL_number_0 : decode cL_number 0 = .ok (.iload_n 0, 1) := by decide +kernel
theorem dL_number_1 : decode cL_number 1 = .ok (.iconst 1, 1) := by decide +kernel
theorem dL_number_2 : decode cL_number 2 = .ok (.if_icmp .ne 9, 3) := by decide +kernel
theorem dL_number_5 : decode cL_number 5 = .ok (.iload_n 1, 1) := by decide +kernel
theorem dL_number_6 : decode cL_number 6 = .ok (.iconst 2, 1) := by decide +kernel
theorem dL_number_7 : decode cL_number 7 = .ok (.idiv, 1) := by decide +kernel
theorem dL_number_8 : decode cL_number 8 = .ok (.goto 4, 3) := by decide +kernel
theorem dL_number_11 : decode cL_number 11 = .ok (.iload_n 1, 1) := by decide +kernel
theorem dL_number_12 : decode cL_number 12 = .ok (.ireturn, 1) := by decide +kernel
theorem dL_now_0 : decode cL_now 0 = .ok (.aload_n 0, 1) := by decide +kernel
theorem dL_now_1 : decode cL_now 1 = .ok (.iconst 3, 1) := by decide +kernel
theorem dL_now_2 : decode cL_now 2 = .ok (.iconst 3, 1) := by decide +kernel
theorem dL_now_3 : decode cL_now 3 = .ok (.iload_n 1, 1) := by decide +kernel
theorem dL_now_4 : decode cL_now 4 = .ok (.imul, 1) := by decide +kernel
theorem dL_now_5 : decode cL_now 5 = .ok (.iadd, 1) := by decide +kernel
theorem dL_now_6 : decode cL_now 6 = .ok (.iaload, 1) := by decide +kernel
theorem dL_now_7 : decode cL_now 7 = .ok (.aload_n 0, 1) := by decide +kernel
theorem dL_now_8 : decode cL_now 8 = .ok (.iconst 4, 1) := by decide +kernel
theorem dL_now_9 : decode cL_now 9 = .ok (.iconst 3, 1) := by decide +kernel
theorem dL_now_10 : decode cL_now 10 = .ok (.iload_n 1, 1) := by decide +kernel
theorem dL_now_11 : decode cL_now 11 = .ok (.imul, 1) := by decide +kernel
theorem dL_now_12 : decode cL_now 12 = .ok (.iadd, 1) := by decide +kernel
theorem dL_now_13 : decode cL_now 13 = .ok (.iaload, 1) := by decide +kernel
theorem dL_now_14 : decode cL_now 14 = .ok (.invokestatic 27, 3) := by decide +kernel
theorem dL_now_17 : decode cL_now 17 = .ok (.ireturn, 1) := by decide +kernel
theorem dL_then_0 : decode cL_then 0 = .ok (.iload_n 3, 1) := by decide +kernel
theorem dL_then_1 : decode cL_then 1 = .ok (.aload_n 0, 1) := by decide +kernel
theorem dL_then_2 : decode cL_then 2 = .ok (.iconst 1, 1) := by decide +kernel
theorem dL_then_3 : decode cL_then 3 = .ok (.iaload, 1) := by decide +kernel
theorem dL_then_4 : decode cL_then 4 = .ok (.if_icmp .ne 11, 3) := by decide +kernel
theorem dL_then_7 : decode cL_then 7 = .ok (.aload_n 0, 1) := by decide +kernel
theorem dL_then_8 : decode cL_then 8 = .ok (.iload_n 2, 1) := by decide +kernel
theorem dL_then_9 : decode cL_then 9 = .ok (.invokestatic 31, 3) := by decide +kernel
theorem dL_then_12 : decode cL_then 12 = .ok (.goto 26, 3) := by decide +kernel
theorem dL_then_15 : decode cL_then 15 = .ok (.aload_n 0, 1) := by decide +kernel
theorem dL_then_16 : decode cL_then 16 = .ok (.iconst 3, 1) := by decide +kernel
theorem dL_then_17 : decode cL_then 17 = .ok (.iconst 3, 1) := by decide +kernel
theorem dL_then_18 : decode cL_then 18 = .ok (.iload_n 2, 1) := by decide +kernel
theorem dL_then_19 : decode cL_then 19 = .ok (.imul, 1) := by decide +kernel
theorem dL_then_20 : decode cL_then 20 = .ok (.iadd, 1) := by decide +kernel
theorem dL_then_21 : decode cL_then 21 = .ok (.iaload, 1) := by decide +kernel
theorem dL_then_22 : decode cL_then 22 = .ok (.aload_n 1, 1) := by decide +kernel
theorem dL_then_23 : decode cL_then 23 = .ok (.iload_n 3, 1) := by decide +kernel
theorem dL_then_24 : decode cL_then 24 = .ok (.laload, 1) := by decide +kernel
theorem dL_then_25 : decode cL_then 25 = .ok (.bipush 7, 2) := by decide +kernel
theorem dL_then_27 : decode cL_then 27 = .ok (.iload_n 2, 1) := by decide +kernel
theorem dL_then_28 : decode cL_then 28 = .ok (.imul, 1) := by decide +kernel
theorem dL_then_29 : decode cL_then 29 = .ok (.lshr, 1) := by decide +kernel
theorem dL_then_30 : decode cL_then 30 = .ok (.ldc2_w 35, 3) := by decide +kernel
theorem dL_then_33 : decode cL_then 33 = .ok (.land, 1) := by decide +kernel
theorem dL_then_34 : decode cL_then 34 = .ok (.l2i, 1) := by decide +kernel
theorem dL_then_35 : decode cL_then 35 = .ok (.invokestatic 27, 3) := by decide +kernel
theorem dL_then_38 : decode cL_then 38 = .ok (.ireturn, 1) := by decide +kernel
theorem dL_pass_0 : decode cL_pass 0 = .ok (.iconst 0, 1) := by decide +kernel
theorem dL_pass_1 : decode cL_pass 1 = .ok (.istore_n 1, 1) := by decide +kernel
theorem dL_pass_2 : decode cL_pass 2 = .ok (.iload_n 1, 1) := by decide +kernel
theorem dL_pass_3 : decode cL_pass 3 = .ok (.aload_n 0, 1) := by decide +kernel
theorem dL_pass_4 : decode cL_pass 4 = .ok (.iconst 0, 1) := by decide +kernel
theorem dL_pass_5 : decode cL_pass 5 = .ok (.iaload, 1) := by decide +kernel
theorem dL_pass_6 : decode cL_pass 6 = .ok (.if_icmp .ge 35, 3) := by decide +kernel
theorem dL_pass_9 : decode cL_pass 9 = .ok (.aload_n 0, 1) := by decide +kernel
theorem dL_pass_10 : decode cL_pass 10 = .ok (.iconst 4, 1) := by decide +kernel
theorem dL_pass_11 : decode cL_pass 11 = .ok (.iconst 3, 1) := by decide +kernel
theorem dL_pass_12 : decode cL_pass 12 = .ok (.iload_n 1, 1) := by decide +kernel
theorem dL_pass_13 : decode cL_pass 13 = .ok (.imul, 1) := by decide +kernel
theorem dL_pass_14 : decode cL_pass 14 = .ok (.iadd, 1) := by decide +kernel
theorem dL_pass_15 : decode cL_pass 15 = .ok (.dup2, 1) := by decide +kernel
theorem dL_pass_16 : decode cL_pass 16 = .ok (.iaload, 1) := by decide +kernel
theorem dL_pass_17 : decode cL_pass 17 = .ok (.aload_n 0, 1) := by decide +kernel
theorem dL_pass_18 : decode cL_pass 18 = .ok (.iconst 3, 1) := by decide +kernel
theorem dL_pass_19 : decode cL_pass 19 = .ok (.iconst 3, 1) := by decide +kernel
theorem dL_pass_20 : decode cL_pass 20 = .ok (.iload_n 1, 1) := by decide +kernel
theorem dL_pass_21 : decode cL_pass 21 = .ok (.imul, 1) := by decide +kernel
theorem dL_pass_22 : decode cL_pass 22 = .ok (.iadd, 1) := by decide +kernel
theorem dL_pass_23 : decode cL_pass 23 = .ok (.iaload, 1) := by decide +kernel
theorem dL_pass_24 : decode cL_pass 24 = .ok (.iconst 4, 1) := by decide +kernel
theorem dL_pass_25 : decode cL_pass 25 = .ok (.if_icmp .ne 7, 3) := by decide +kernel
theorem dL_pass_28 : decode cL_pass 28 = .ok (.iconst 0, 1) := by decide +kernel
theorem dL_pass_29 : decode cL_pass 29 = .ok (.goto 4, 3) := by decide +kernel
theorem dL_pass_32 : decode cL_pass 32 = .ok (.iconst 1, 1) := by decide +kernel
theorem dL_pass_33 : decode cL_pass 33 = .ok (.iadd, 1) := by decide +kernel
theorem dL_pass_34 : decode cL_pass 34 = .ok (.iastore, 1) := by decide +kernel
theorem dL_pass_35 : decode cL_pass 35 = .ok (.iinc 1 1, 3) := by decide +kernel
theorem dL_pass_38 : decode cL_pass 38 = .ok (.goto (-36), 3) := by decide +kernel
theorem dL_pass_41 : decode cL_pass 41 = .ok (.return_, 1) := by decide +kernel
theorem dL_bears_0 : decode cL_bears 0 = .ok (.aload_n 0, 1) := by decide +kernel
theorem dL_bears_1 : decode cL_bears 1 = .ok (.iconst 3, 1) := by decide +kernel
theorem dL_bears_2 : decode cL_bears 2 = .ok (.iconst 3, 1) := by decide +kernel
theorem dL_bears_3 : decode cL_bears 3 = .ok (.iload_n 1, 1) := by decide +kernel
theorem dL_bears_4 : decode cL_bears 4 = .ok (.imul, 1) := by decide +kernel
theorem dL_bears_5 : decode cL_bears 5 = .ok (.iadd, 1) := by decide +kernel
theorem dL_bears_6 : decode cL_bears 6 = .ok (.iaload, 1) := by decide +kernel
theorem dL_bears_7 : decode cL_bears 7 = .ok (.iconst 2, 1) := by decide +kernel
theorem dL_bears_8 : decode cL_bears 8 = .ok (.irem, 1) := by decide +kernel
theorem dL_bears_9 : decode cL_bears 9 = .ok (.iconst 1, 1) := by decide +kernel
theorem dL_bears_10 : decode cL_bears 10 = .ok (.if_icmp .eq 13, 3) := by decide +kernel
theorem dL_bears_13 : decode cL_bears 13 = .ok (.aload_n 0, 1) := by decide +kernel
theorem dL_bears_14 : decode cL_bears 14 = .ok (.iconst 3, 1) := by decide +kernel
theorem dL_bears_15 : decode cL_bears 15 = .ok (.iconst 3, 1) := by decide +kernel
theorem dL_bears_16 : decode cL_bears 16 = .ok (.iload_n 1, 1) := by decide +kernel
theorem dL_bears_17 : decode cL_bears 17 = .ok (.imul, 1) := by decide +kernel
theorem dL_bears_18 : decode cL_bears 18 = .ok (.iadd, 1) := by decide +kernel
theorem dL_bears_19 : decode cL_bears 19 = .ok (.iaload, 1) := by decide +kernel
theorem dL_bears_20 : decode cL_bears 20 = .ok (.ifCond .ne 7, 3) := by decide +kernel
theorem dL_bears_23 : decode cL_bears 23 = .ok (.iconst 1, 1) := by decide +kernel
theorem dL_bears_24 : decode cL_bears 24 = .ok (.goto 4, 3) := by decide +kernel
theorem dL_bears_27 : decode cL_bears 27 = .ok (.iconst 0, 1) := by decide +kernel
theorem dL_bears_28 : decode cL_bears 28 = .ok (.ireturn, 1) := by decide +kernel
theorem dL_bear_0 : decode cL_bear 0 = .ok (.aload_n 0, 1) := by decide +kernel
theorem dL_bear_1 : decode cL_bear 1 = .ok (.iconst 4, 1) := by decide +kernel
theorem dL_bear_2 : decode cL_bear 2 = .ok (.iconst 3, 1) := by decide +kernel
theorem dL_bear_3 : decode cL_bear 3 = .ok (.iload_n 1, 1) := by decide +kernel
theorem dL_bear_4 : decode cL_bear 4 = .ok (.imul, 1) := by decide +kernel
theorem dL_bear_5 : decode cL_bear 5 = .ok (.iadd, 1) := by decide +kernel
theorem dL_bear_6 : decode cL_bear 6 = .ok (.iconst 0, 1) := by decide +kernel
theorem dL_bear_7 : decode cL_bear 7 = .ok (.iastore, 1) := by decide +kernel
theorem dL_bear_8 : decode cL_bear 8 = .ok (.iload_n 1, 1) := by decide +kernel
theorem dL_bear_9 : decode cL_bear 9 = .ok (.aload_n 0, 1) := by decide +kernel
theorem dL_bear_10 : decode cL_bear 10 = .ok (.iconst 0, 1) := by decide +kernel
theorem dL_bear_11 : decode cL_bear 11 = .ok (.iaload, 1) := by decide +kernel
theorem dL_bear_12 : decode cL_bear 12 = .ok (.iconst 1, 1) := by decide +kernel
theorem dL_bear_13 : decode cL_bear 13 = .ok (.isub, 1) := by decide +kernel
theorem dL_bear_14 : decode cL_bear 14 = .ok (.if_icmp .ge 19, 3) := by decide +kernel
theorem dL_bear_17 : decode cL_bear 17 = .ok (.aload_n 0, 1) := by decide +kernel
theorem dL_bear_18 : decode cL_bear 18 = .ok (.bipush 6, 2) := by decide +kernel
theorem dL_bear_20 : decode cL_bear 20 = .ok (.iconst 3, 1) := by decide +kernel
theorem dL_bear_21 : decode cL_bear 21 = .ok (.iload_n 1, 1) := by decide +kernel
theorem dL_bear_22 : decode cL_bear 22 = .ok (.imul, 1) := by decide +kernel
theorem dL_bear_23 : decode cL_bear 23 = .ok (.iadd, 1) := by decide +kernel
theorem dL_bear_24 : decode cL_bear 24 = .ok (.iaload, 1) := by decide +kernel
theorem dL_bear_25 : decode cL_bear 25 = .ok (.iconst 3, 1) := by decide +kernel
theorem dL_bear_26 : decode cL_bear 26 = .ok (.if_icmp .ne 7, 3) := by decide +kernel
theorem dL_bear_29 : decode cL_bear 29 = .ok (.iconst 1, 1) := by decide +kernel
theorem dL_bear_30 : decode cL_bear 30 = .ok (.goto 4, 3) := by decide +kernel
theorem dL_bear_33 : decode cL_bear 33 = .ok (.iconst 0, 1) := by decide +kernel
theorem dL_bear_34 : decode cL_bear 34 = .ok (.istore_n 2, 1) := by decide +kernel
theorem dL_bear_35 : decode cL_bear 35 = .ok (.iload_n 2, 1) := by decide +kernel
theorem dL_bear_36 : decode cL_bear 36 = .ok (.ifCond .eq 12, 3) := by decide +kernel
theorem dL_bear_39 : decode cL_bear 39 = .ok (.aload_n 0, 1) := by decide +kernel
theorem dL_bear_40 : decode cL_bear 40 = .ok (.bipush 7, 2) := by decide +kernel
theorem dL_bear_42 : decode cL_bear 42 = .ok (.iconst 3, 1) := by decide +kernel
theorem dL_bear_43 : decode cL_bear 43 = .ok (.iload_n 1, 1) := by decide +kernel
theorem dL_bear_44 : decode cL_bear 44 = .ok (.imul, 1) := by decide +kernel
theorem dL_bear_45 : decode cL_bear 45 = .ok (.iadd, 1) := by decide +kernel
theorem dL_bear_46 : decode cL_bear 46 = .ok (.iconst 0, 1) := by decide +kernel
theorem dL_bear_47 : decode cL_bear 47 = .ok (.iastore, 1) := by decide +kernel
theorem dL_bear_48 : decode cL_bear 48 = .ok (.iload_n 2, 1) := by decide +kernel
theorem dL_bear_49 : decode cL_bear 49 = .ok (.ifCond .eq 7, 3) := by decide +kernel
theorem dL_bear_52 : decode cL_bear 52 = .ok (.iconst 2, 1) := by decide +kernel
theorem dL_bear_53 : decode cL_bear 53 = .ok (.goto 4, 3) := by decide +kernel
theorem dL_bear_56 : decode cL_bear 56 = .ok (.iconst 1, 1) := by decide +kernel
theorem dL_bear_57 : decode cL_bear 57 = .ok (.ireturn, 1) := by decide +kernel
theorem dL_order_0 : decode cL_order 0 = .ok (.iconst 0, 1) := by decide +kernel
theorem dL_order_1 : decode cL_order 1 = .ok (.istore_n 2, 1) := by decide +kernel
theorem dL_order_2 : decode cL_order 2 = .ok (.iconst 0, 1) := by decide +kernel
theorem dL_order_3 : decode cL_order 3 = .ok (.istore_n 3, 1) := by decide +kernel
theorem dL_order_4 : decode cL_order 4 = .ok (.iload_n 3, 1) := by decide +kernel
theorem dL_order_5 : decode cL_order 5 = .ok (.aload_n 0, 1) := by decide +kernel
theorem dL_order_6 : decode cL_order 6 = .ok (.iconst 0, 1) := by decide +kernel
theorem dL_order_7 : decode cL_order 7 = .ok (.iaload, 1) := by decide +kernel
theorem dL_order_8 : decode cL_order 8 = .ok (.if_icmp .ge 48, 3) := by decide +kernel
theorem dL_order_11 : decode cL_order 11 = .ok (.iload_n 2, 1) := by decide +kernel
theorem dL_order_12 : decode cL_order 12 = .ok (.aload_n 0, 1) := by decide +kernel
theorem dL_order_13 : decode cL_order 13 = .ok (.iload_n 3, 1) := by decide +kernel
theorem dL_order_14 : decode cL_order 14 = .ok (.invokestatic 31, 3) := by decide +kernel
theorem dL_order_17 : decode cL_order 17 = .ok (.aload_n 0, 1) := by decide +kernel
theorem dL_order_18 : decode cL_order 18 = .ok (.iload_n 1, 1) := by decide +kernel
theorem dL_order_19 : decode cL_order 19 = .ok (.invokestatic 31, 3) := by decide +kernel
theorem dL_order_22 : decode cL_order 22 = .ok (.if_icmp .lt 21, 3) := by decide +kernel
theorem dL_order_25 : decode cL_order 25 = .ok (.aload_n 0, 1) := by decide +kernel
theorem dL_order_26 : decode cL_order 26 = .ok (.iload_n 3, 1) := by decide +kernel
theorem dL_order_27 : decode cL_order 27 = .ok (.invokestatic 31, 3) := by decide +kernel
theorem dL_order_30 : decode cL_order 30 = .ok (.aload_n 0, 1) := by decide +kernel
theorem dL_order_31 : decode cL_order 31 = .ok (.iload_n 1, 1) := by decide +kernel
theorem dL_order_32 : decode cL_order 32 = .ok (.invokestatic 31, 3) := by decide +kernel
theorem dL_order_35 : decode cL_order 35 = .ok (.if_icmp .ne 12, 3) := by decide +kernel
theorem dL_order_38 : decode cL_order 38 = .ok (.iload_n 3, 1) := by decide +kernel
theorem dL_order_39 : decode cL_order 39 = .ok (.iload_n 1, 1) := by decide +kernel
theorem dL_order_40 : decode cL_order 40 = .ok (.if_icmp .ge 7, 3) := by decide +kernel
theorem dL_order_43 : decode cL_order 43 = .ok (.iconst 1, 1) := by decide +kernel
theorem dL_order_44 : decode cL_order 44 = .ok (.goto 4, 3) := by decide +kernel
theorem dL_order_47 : decode cL_order 47 = .ok (.iconst 0, 1) := by decide +kernel
theorem dL_order_48 : decode cL_order 48 = .ok (.iadd, 1) := by decide +kernel
theorem dL_order_49 : decode cL_order 49 = .ok (.istore_n 2, 1) := by decide +kernel
theorem dL_order_50 : decode cL_order 50 = .ok (.iinc 3 1, 3) := by decide +kernel
theorem dL_order_53 : decode cL_order 53 = .ok (.goto (-49), 3) := by decide +kernel
theorem dL_order_56 : decode cL_order 56 = .ok (.iload_n 2, 1) := by decide +kernel
theorem dL_order_57 : decode cL_order 57 = .ok (.ireturn, 1) := by decide +kernel
theorem dL_walk_0 : decode cL_walk 0 = .ok (.iconst 1, 1) := by decide +kernel
theorem dL_walk_1 : decode cL_walk 1 = .ok (.aload_n 0, 1) := by decide +kernel
theorem dL_walk_2 : decode cL_walk 2 = .ok (.iconst 0, 1) := by decide +kernel
theorem dL_walk_3 : decode cL_walk 3 = .ok (.iaload, 1) := by decide +kernel
theorem dL_walk_4 : decode cL_walk 4 = .ok (.ishl, 1) := by decide +kernel
theorem dL_walk_5 : decode cL_walk 5 = .ok (.iconst 1, 1) := by decide +kernel
theorem dL_walk_6 : decode cL_walk 6 = .ok (.isub, 1) := by decide +kernel
theorem dL_walk_7 : decode cL_walk 7 = .ok (.istore_n 1, 1) := by decide +kernel
theorem dL_walk_8 : decode cL_walk 8 = .ok (.iconst 0, 1) := by decide +kernel
theorem dL_walk_9 : decode cL_walk 9 = .ok (.istore_n 2, 1) := by decide +kernel
theorem dL_walk_10 : decode cL_walk 10 = .ok (.iconst 0, 1) := by decide +kernel
theorem dL_walk_11 : decode cL_walk 11 = .ok (.istore_n 3, 1) := by decide +kernel
theorem dL_walk_12 : decode cL_walk 12 = .ok (.iload_n 1, 1) := by decide +kernel
theorem dL_walk_13 : decode cL_walk 13 = .ok (.ifCond .le 108, 3) := by decide +kernel
theorem dL_walk_16 : decode cL_walk 16 = .ok (.iconst (-1), 1) := by decide +kernel
theorem dL_walk_17 : decode cL_walk 17 = .ok (.istore 4, 2) := by decide +kernel
theorem dL_walk_19 : decode cL_walk 19 = .ok (.aload_n 0, 1) := by decide +kernel
theorem dL_walk_20 : decode cL_walk 20 = .ok (.iconst 0, 1) := by decide +kernel
theorem dL_walk_21 : decode cL_walk 21 = .ok (.iaload, 1) := by decide +kernel
theorem dL_walk_22 : decode cL_walk 22 = .ok (.iconst 1, 1) := by decide +kernel
theorem dL_walk_23 : decode cL_walk 23 = .ok (.isub, 1) := by decide +kernel
theorem dL_walk_24 : decode cL_walk 24 = .ok (.istore 5, 2) := by decide +kernel
theorem dL_walk_26 : decode cL_walk 26 = .ok (.iload 5, 2) := by decide +kernel
theorem dL_walk_28 : decode cL_walk 28 = .ok (.ifCond .lt 60, 3) := by decide +kernel
theorem dL_walk_31 : decode cL_walk 31 = .ok (.iload_n 1, 1) := by decide +kernel
theorem dL_walk_32 : decode cL_walk 32 = .ok (.iload 5, 2) := by decide +kernel
theorem dL_walk_34 : decode cL_walk 34 = .ok (.ishr, 1) := by decide +kernel
theorem dL_walk_35 : decode cL_walk 35 = .ok (.iconst 1, 1) := by decide +kernel
theorem dL_walk_36 : decode cL_walk 36 = .ok (.iand, 1) := by decide +kernel
theorem dL_walk_37 : decode cL_walk 37 = .ok (.iconst 1, 1) := by decide +kernel
theorem dL_walk_38 : decode cL_walk 38 = .ok (.if_icmp .ne 7, 3) := by decide +kernel
theorem dL_walk_41 : decode cL_walk 41 = .ok (.iconst 1, 1) := by decide +kernel
theorem dL_walk_42 : decode cL_walk 42 = .ok (.goto 4, 3) := by decide +kernel
theorem dL_walk_45 : decode cL_walk 45 = .ok (.iconst 0, 1) := by decide +kernel
theorem dL_walk_46 : decode cL_walk 46 = .ok (.istore 6, 2) := by decide +kernel
theorem dL_walk_48 : decode cL_walk 48 = .ok (.iload 6, 2) := by decide +kernel
theorem dL_walk_50 : decode cL_walk 50 = .ok (.ifCond .eq 28, 3) := by decide +kernel
theorem dL_walk_53 : decode cL_walk 53 = .ok (.iload 4, 2) := by decide +kernel
theorem dL_walk_55 : decode cL_walk 55 = .ok (.ifCond .lt 18, 3) := by decide +kernel
theorem dL_walk_58 : decode cL_walk 58 = .ok (.aload_n 0, 1) := by decide +kernel
theorem dL_walk_59 : decode cL_walk 59 = .ok (.iload 5, 2) := by decide +kernel
theorem dL_walk_61 : decode cL_walk 61 = .ok (.invokestatic 31, 3) := by decide +kernel
theorem dL_walk_64 : decode cL_walk 64 = .ok (.aload_n 0, 1) := by decide +kernel
theorem dL_walk_65 : decode cL_walk 65 = .ok (.iload 4, 2) := by decide +kernel
theorem dL_walk_67 : decode cL_walk 67 = .ok (.invokestatic 31, 3) := by decide +kernel
theorem dL_walk_70 : decode cL_walk 70 = .ok (.if_icmp .gt 8, 3) := by decide +kernel
theorem dL_walk_73 : decode cL_walk 73 = .ok (.iload 5, 2) := by decide +kernel
theorem dL_walk_75 : decode cL_walk 75 = .ok (.goto 5, 3) := by decide +kernel
theorem dL_walk_78 : decode cL_walk 78 = .ok (.iload 4, 2) := by decide +kernel
theorem dL_walk_80 : decode cL_walk 80 = .ok (.istore 4, 2) := by decide +kernel
theorem dL_walk_82 : decode cL_walk 82 = .ok (.iinc 5 (-1), 3) := by decide +kernel
theorem dL_walk_85 : decode cL_walk 85 = .ok (.goto (-59), 3) := by decide +kernel
theorem dL_walk_88 : decode cL_walk 88 = .ok (.iload_n 3, 1) := by decide +kernel
theorem dL_walk_89 : decode cL_walk 89 = .ok (.iload 4, 2) := by decide +kernel
theorem dL_walk_91 : decode cL_walk 91 = .ok (.iload_n 2, 1) := by decide +kernel
theorem dL_walk_92 : decode cL_walk 92 = .ok (.if_icmp .le 10, 3) := by decide +kernel
theorem dL_walk_95 : decode cL_walk 95 = .ok (.iload 4, 2) := by decide +kernel
theorem dL_walk_97 : decode cL_walk 97 = .ok (.iload_n 2, 1) := by decide +kernel
theorem dL_walk_98 : decode cL_walk 98 = .ok (.isub, 1) := by decide +kernel
theorem dL_walk_99 : decode cL_walk 99 = .ok (.goto 7, 3) := by decide +kernel
theorem dL_walk_102 : decode cL_walk 102 = .ok (.iload_n 2, 1) := by decide +kernel
theorem dL_walk_103 : decode cL_walk 103 = .ok (.iload 4, 2) := by decide +kernel
theorem dL_walk_105 : decode cL_walk 105 = .ok (.isub, 1) := by decide +kernel
theorem dL_walk_106 : decode cL_walk 106 = .ok (.iadd, 1) := by decide +kernel
theorem dL_walk_107 : decode cL_walk 107 = .ok (.istore_n 3, 1) := by decide +kernel
theorem dL_walk_108 : decode cL_walk 108 = .ok (.iload 4, 2) := by decide +kernel
theorem dL_walk_110 : decode cL_walk 110 = .ok (.istore_n 2, 1) := by decide +kernel
theorem dL_walk_111 : decode cL_walk 111 = .ok (.iload_n 1, 1) := by decide +kernel
theorem dL_walk_112 : decode cL_walk 112 = .ok (.iconst 1, 1) := by decide +kernel
theorem dL_walk_113 : decode cL_walk 113 = .ok (.iload 4, 2) := by decide +kernel
theorem dL_walk_115 : decode cL_walk 115 = .ok (.ishl, 1) := by decide +kernel
theorem dL_walk_116 : decode cL_walk 116 = .ok (.isub, 1) := by decide +kernel
theorem dL_walk_117 : decode cL_walk 117 = .ok (.istore_n 1, 1) := by decide +kernel
theorem dL_walk_118 : decode cL_walk 118 = .ok (.goto (-106), 3) := by decide +kernel
theorem dL_walk_121 : decode cL_walk 121 = .ok (.iload_n 3, 1) := by decide +kernel
theorem dL_walk_122 : decode cL_walk 122 = .ok (.ireturn, 1) := by decide +kernel
theorem dL_numbers_0 : decode cL_numbers 0 = .ok (.iconst 0, 1) := by decide +kernel
theorem dL_numbers_1 : decode cL_numbers 1 = .ok (.istore_n 1, 1) := by decide +kernel
theorem dL_numbers_2 : decode cL_numbers 2 = .ok (.iconst 0, 1) := by decide +kernel
theorem dL_numbers_3 : decode cL_numbers 3 = .ok (.istore_n 2, 1) := by decide +kernel
theorem dL_numbers_4 : decode cL_numbers 4 = .ok (.iload_n 2, 1) := by decide +kernel
theorem dL_numbers_5 : decode cL_numbers 5 = .ok (.aload_n 0, 1) := by decide +kernel
theorem dL_numbers_6 : decode cL_numbers 6 = .ok (.iconst 0, 1) := by decide +kernel
theorem dL_numbers_7 : decode cL_numbers 7 = .ok (.iaload, 1) := by decide +kernel
theorem dL_numbers_8 : decode cL_numbers 8 = .ok (.if_icmp .ge 17, 3) := by decide +kernel
theorem dL_numbers_11 : decode cL_numbers 11 = .ok (.iload_n 1, 1) := by decide +kernel
theorem dL_numbers_12 : decode cL_numbers 12 = .ok (.aload_n 0, 1) := by decide +kernel
theorem dL_numbers_13 : decode cL_numbers 13 = .ok (.iload_n 2, 1) := by decide +kernel
theorem dL_numbers_14 : decode cL_numbers 14 = .ok (.invokestatic 31, 3) := by decide +kernel
theorem dL_numbers_17 : decode cL_numbers 17 = .ok (.iadd, 1) := by decide +kernel
theorem dL_numbers_18 : decode cL_numbers 18 = .ok (.istore_n 1, 1) := by decide +kernel
theorem dL_numbers_19 : decode cL_numbers 19 = .ok (.iinc 2 1, 3) := by decide +kernel
theorem dL_numbers_22 : decode cL_numbers 22 = .ok (.goto (-18), 3) := by decide +kernel
theorem dL_numbers_25 : decode cL_numbers 25 = .ok (.iload_n 1, 1) := by decide +kernel
theorem dL_numbers_26 : decode cL_numbers 26 = .ok (.ireturn, 1) := by decide +kernel
theorem dL_copy_0 : decode cL_copy 0 = .ok (.iconst 0, 1) := by decide +kernel
theorem dL_copy_1 : decode cL_copy 1 = .ok (.istore_n 2, 1) := by decide +kernel
theorem dL_copy_2 : decode cL_copy 2 = .ok (.iload_n 2, 1) := by decide +kernel
theorem dL_copy_3 : decode cL_copy 3 = .ok (.bipush 21, 2) := by decide +kernel
theorem dL_copy_5 : decode cL_copy 5 = .ok (.if_icmp .ge 15, 3) := by decide +kernel
theorem dL_copy_8 : decode cL_copy 8 = .ok (.aload_n 1, 1) := by decide +kernel
theorem dL_copy_9 : decode cL_copy 9 = .ok (.iload_n 2, 1) := by decide +kernel
theorem dL_copy_10 : decode cL_copy 10 = .ok (.aload_n 0, 1) := by decide +kernel
theorem dL_copy_11 : decode cL_copy 11 = .ok (.iload_n 2, 1) := by decide +kernel
theorem dL_copy_12 : decode cL_copy 12 = .ok (.iaload, 1) := by decide +kernel
theorem dL_copy_13 : decode cL_copy 13 = .ok (.iastore, 1) := by decide +kernel
theorem dL_copy_14 : decode cL_copy 14 = .ok (.iinc 2 1, 3) := by decide +kernel
theorem dL_copy_17 : decode cL_copy 17 = .ok (.goto (-15), 3) := by decide +kernel
theorem dL_copy_20 : decode cL_copy 20 = .ok (.return_, 1) := by decide +kernel
theorem dL_act_0 : decode cL_act 0 = .ok (.iload_n 1, 1) := by decide +kernel
theorem dL_act_1 : decode cL_act 1 = .ok (.bipush 16, 2) := by decide +kernel
theorem dL_act_3 : decode cL_act 3 = .ok (.irem, 1) := by decide +kernel
theorem dL_act_4 : decode cL_act 4 = .ok (.bipush 7, 2) := by decide +kernel
theorem dL_act_6 : decode cL_act 6 = .ok (.if_icmp .ge 104, 3) := by decide +kernel
theorem dL_act_9 : decode cL_act 9 = .ok (.iload_n 1, 1) := by decide +kernel
theorem dL_act_10 : decode cL_act 10 = .ok (.bipush 16, 2) := by decide +kernel
theorem dL_act_12 : decode cL_act 12 = .ok (.idiv, 1) := by decide +kernel
theorem dL_act_13 : decode cL_act 13 = .ok (.aload_n 2, 1) := by decide +kernel
theorem dL_act_14 : decode cL_act 14 = .ok (.iconst 0, 1) := by decide +kernel
theorem dL_act_15 : decode cL_act 15 = .ok (.iaload, 1) := by decide +kernel
theorem dL_act_16 : decode cL_act 16 = .ok (.irem, 1) := by decide +kernel
theorem dL_act_17 : decode cL_act 17 = .ok (.istore 4, 2) := by decide +kernel
theorem dL_act_19 : decode cL_act 19 = .ok (.aload_n 2, 1) := by decide +kernel
theorem dL_act_20 : decode cL_act 20 = .ok (.iload 4, 2) := by decide +kernel
theorem dL_act_22 : decode cL_act 22 = .ok (.invokestatic 37, 3) := by decide +kernel
theorem dL_act_25 : decode cL_act 25 = .ok (.ifCond .ne 20, 3) := by decide +kernel
theorem dL_act_28 : decode cL_act 28 = .ok (.aload_n 0, 1) := by decide +kernel
theorem dL_act_29 : decode cL_act 29 = .ok (.iload 4, 2) := by decide +kernel
theorem dL_act_31 : decode cL_act 31 = .ok (.invokevirtual 41, 3) := by decide +kernel
theorem dL_act_34 : decode cL_act 34 = .ok (.bipush (-103), 2) := by decide +kernel
theorem dL_act_36 : decode cL_act 36 = .ok (.if_icmp .ne 7, 3) := by decide +kernel
theorem dL_act_39 : decode cL_act 39 = .ok (.iconst 1, 1) := by decide +kernel
theorem dL_act_40 : decode cL_act 40 = .ok (.goto 4, 3) := by decide +kernel
theorem dL_act_43 : decode cL_act 43 = .ok (.iconst 0, 1) := by decide +kernel
theorem dL_act_44 : decode cL_act 44 = .ok (.ireturn, 1) := by decide +kernel
theorem dL_act_45 : decode cL_act 45 = .ok (.aload_n 2, 1) := by decide +kernel
theorem dL_act_46 : decode cL_act 46 = .ok (.iload 4, 2) := by decide +kernel
theorem dL_act_48 : decode cL_act 48 = .ok (.invokestatic 44, 3) := by decide +kernel
theorem dL_act_51 : decode cL_act 51 = .ok (.istore 5, 2) := by decide +kernel
theorem dL_act_53 : decode cL_act 53 = .ok (.iconst 0, 1) := by decide +kernel
theorem dL_act_54 : decode cL_act 54 = .ok (.istore 6, 2) := by decide +kernel
theorem dL_act_56 : decode cL_act 56 = .ok (.iload 6, 2) := by decide +kernel
theorem dL_act_58 : decode cL_act 58 = .ok (.iload 5, 2) := by decide +kernel
theorem dL_act_60 : decode cL_act 60 = .ok (.if_icmp .ge 26, 3) := by decide +kernel
theorem dL_act_63 : decode cL_act 63 = .ok (.aload_n 2, 1) := by decide +kernel
theorem dL_act_64 : decode cL_act 64 = .ok (.iconst 5, 1) := by decide +kernel
theorem dL_act_65 : decode cL_act 65 = .ok (.iconst 3, 1) := by decide +kernel
theorem dL_act_66 : decode cL_act 66 = .ok (.iload 4, 2) := by decide +kernel
theorem dL_act_68 : decode cL_act 68 = .ok (.imul, 1) := by decide +kernel
theorem dL_act_69 : decode cL_act 69 = .ok (.iadd, 1) := by decide +kernel
theorem dL_act_70 : decode cL_act 70 = .ok (.iconst 3, 1) := by decide +kernel
theorem dL_act_71 : decode cL_act 71 = .ok (.iload 6, 2) := by decide +kernel
theorem dL_act_73 : decode cL_act 73 = .ok (.imul, 1) := by decide +kernel
theorem dL_act_74 : decode cL_act 74 = .ok (.iadd, 1) := by decide +kernel
theorem dL_act_75 : decode cL_act 75 = .ok (.dup2, 1) := by decide +kernel
theorem dL_act_76 : decode cL_act 76 = .ok (.iaload, 1) := by decide +kernel
theorem dL_act_77 : decode cL_act 77 = .ok (.iconst 1, 1) := by decide +kernel
theorem dL_act_78 : decode cL_act 78 = .ok (.iadd, 1) := by decide +kernel
theorem dL_act_79 : decode cL_act 79 = .ok (.iastore, 1) := by decide +kernel
theorem dL_act_80 : decode cL_act 80 = .ok (.iinc 6 1, 3) := by decide +kernel
theorem dL_act_83 : decode cL_act 83 = .ok (.goto (-27), 3) := by decide +kernel
theorem dL_act_86 : decode cL_act 86 = .ok (.aload_n 2, 1) := by decide +kernel
theorem dL_act_87 : decode cL_act 87 = .ok (.iconst 2, 1) := by decide +kernel
theorem dL_act_88 : decode cL_act 88 = .ok (.dup2, 1) := by decide +kernel
theorem dL_act_89 : decode cL_act 89 = .ok (.iaload, 1) := by decide +kernel
theorem dL_act_90 : decode cL_act 90 = .ok (.iconst 1, 1) := by decide +kernel
theorem dL_act_91 : decode cL_act 91 = .ok (.iadd, 1) := by decide +kernel
theorem dL_act_92 : decode cL_act 92 = .ok (.iastore, 1) := by decide +kernel
theorem dL_act_93 : decode cL_act 93 = .ok (.aload_n 0, 1) := by decide +kernel
theorem dL_act_94 : decode cL_act 94 = .ok (.iload 4, 2) := by decide +kernel
theorem dL_act_96 : decode cL_act 96 = .ok (.invokevirtual 41, 3) := by decide +kernel
theorem dL_act_99 : decode cL_act 99 = .ok (.iload 5, 2) := by decide +kernel
theorem dL_act_101 : decode cL_act 101 = .ok (.if_icmp .ne 7, 3) := by decide +kernel
theorem dL_act_104 : decode cL_act 104 = .ok (.iconst 1, 1) := by decide +kernel
theorem dL_act_105 : decode cL_act 105 = .ok (.goto 4, 3) := by decide +kernel
theorem dL_act_108 : decode cL_act 108 = .ok (.iconst 0, 1) := by decide +kernel
theorem dL_act_109 : decode cL_act 109 = .ok (.ireturn, 1) := by decide +kernel
theorem dL_act_110 : decode cL_act 110 = .ok (.aload_n 2, 1) := by decide +kernel
theorem dL_act_111 : decode cL_act 111 = .ok (.iconst 1, 1) := by decide +kernel
theorem dL_act_112 : decode cL_act 112 = .ok (.iaload, 1) := by decide +kernel
theorem dL_act_113 : decode cL_act 113 = .ok (.bipush 30, 2) := by decide +kernel
theorem dL_act_115 : decode cL_act 115 = .ok (.if_icmp .ne 18, 3) := by decide +kernel
theorem dL_act_118 : decode cL_act 118 = .ok (.aload_n 0, 1) := by decide +kernel
theorem dL_act_119 : decode cL_act 119 = .ok (.invokevirtual 47, 3) := by decide +kernel
theorem dL_act_122 : decode cL_act 122 = .ok (.bipush (-104), 2) := by decide +kernel
theorem dL_act_124 : decode cL_act 124 = .ok (.if_icmp .ne 7, 3) := by decide +kernel
theorem dL_act_127 : decode cL_act 127 = .ok (.iconst 1, 1) := by decide +kernel
theorem dL_act_128 : decode cL_act 128 = .ok (.goto 4, 3) := by decide +kernel
theorem dL_act_131 : decode cL_act 131 = .ok (.iconst 0, 1) := by decide +kernel
theorem dL_act_132 : decode cL_act 132 = .ok (.ireturn, 1) := by decide +kernel
theorem dL_act_133 : decode cL_act 133 = .ok (.aload_n 3, 1) := by decide +kernel
theorem dL_act_134 : decode cL_act 134 = .ok (.aload_n 2, 1) := by decide +kernel
theorem dL_act_135 : decode cL_act 135 = .ok (.iconst 1, 1) := by decide +kernel
theorem dL_act_136 : decode cL_act 136 = .ok (.iaload, 1) := by decide +kernel
theorem dL_act_137 : decode cL_act 137 = .ok (.lconst 0, 1) := by decide +kernel
theorem dL_act_138 : decode cL_act 138 = .ok (.lastore, 1) := by decide +kernel
theorem dL_act_139 : decode cL_act 139 = .ok (.iconst 0, 1) := by decide +kernel
theorem dL_act_140 : decode cL_act 140 = .ok (.istore 4, 2) := by decide +kernel
theorem dL_act_142 : decode cL_act 142 = .ok (.iload 4, 2) := by decide +kernel
theorem dL_act_144 : decode cL_act 144 = .ok (.aload_n 2, 1) := by decide +kernel
theorem dL_act_145 : decode cL_act 145 = .ok (.iconst 0, 1) := by decide +kernel
theorem dL_act_146 : decode cL_act 146 = .ok (.iaload, 1) := by decide +kernel
theorem dL_act_147 : decode cL_act 147 = .ok (.if_icmp .ge 32, 3) := by decide +kernel
theorem dL_act_150 : decode cL_act 150 = .ok (.aload_n 3, 1) := by decide +kernel
theorem dL_act_151 : decode cL_act 151 = .ok (.aload_n 2, 1) := by decide +kernel
theorem dL_act_152 : decode cL_act 152 = .ok (.iconst 1, 1) := by decide +kernel
theorem dL_act_153 : decode cL_act 153 = .ok (.iaload, 1) := by decide +kernel
theorem dL_act_154 : decode cL_act 154 = .ok (.dup2, 1) := by decide +kernel
theorem dL_act_155 : decode cL_act 155 = .ok (.laload, 1) := by decide +kernel
theorem dL_act_156 : decode cL_act 156 = .ok (.aload_n 2, 1) := by decide +kernel
theorem dL_act_157 : decode cL_act 157 = .ok (.iconst 4, 1) := by decide +kernel
theorem dL_act_158 : decode cL_act 158 = .ok (.iconst 3, 1) := by decide +kernel
theorem dL_act_159 : decode cL_act 159 = .ok (.iload 4, 2) := by decide +kernel
theorem dL_act_161 : decode cL_act 161 = .ok (.imul, 1) := by decide +kernel
theorem dL_act_162 : decode cL_act 162 = .ok (.iadd, 1) := by decide +kernel
theorem dL_act_163 : decode cL_act 163 = .ok (.iaload, 1) := by decide +kernel
theorem dL_act_164 : decode cL_act 164 = .ok (.i2l, 1) := by decide +kernel
theorem dL_act_165 : decode cL_act 165 = .ok (.bipush 7, 2) := by decide +kernel
theorem dL_act_167 : decode cL_act 167 = .ok (.iload 4, 2) := by decide +kernel
theorem dL_act_169 : decode cL_act 169 = .ok (.imul, 1) := by decide +kernel
theorem dL_act_170 : decode cL_act 170 = .ok (.lshl, 1) := by decide +kernel
theorem dL_act_171 : decode cL_act 171 = .ok (.lor, 1) := by decide +kernel
theorem dL_act_172 : decode cL_act 172 = .ok (.lastore, 1) := by decide +kernel
theorem dL_act_173 : decode cL_act 173 = .ok (.iinc 4 1, 3) := by decide +kernel
theorem dL_act_176 : decode cL_act 176 = .ok (.goto (-34), 3) := by decide +kernel
theorem dL_act_179 : decode cL_act 179 = .ok (.aload_n 2, 1) := by decide +kernel
theorem dL_act_180 : decode cL_act 180 = .ok (.invokestatic 50, 3) := by decide +kernel
theorem dL_act_183 : decode cL_act 183 = .ok (.aload_n 2, 1) := by decide +kernel
theorem dL_act_184 : decode cL_act 184 = .ok (.iconst 1, 1) := by decide +kernel
theorem dL_act_185 : decode cL_act 185 = .ok (.dup2, 1) := by decide +kernel
theorem dL_act_186 : decode cL_act 186 = .ok (.iaload, 1) := by decide +kernel
theorem dL_act_187 : decode cL_act 187 = .ok (.iconst 1, 1) := by decide +kernel
theorem dL_act_188 : decode cL_act 188 = .ok (.iadd, 1) := by decide +kernel
theorem dL_act_189 : decode cL_act 189 = .ok (.iastore, 1) := by decide +kernel
theorem dL_act_190 : decode cL_act 190 = .ok (.aload_n 0, 1) := by decide +kernel
theorem dL_act_191 : decode cL_act 191 = .ok (.invokevirtual 47, 3) := by decide +kernel
theorem dL_act_194 : decode cL_act 194 = .ok (.aload_n 2, 1) := by decide +kernel
theorem dL_act_195 : decode cL_act 195 = .ok (.iconst 1, 1) := by decide +kernel
theorem dL_act_196 : decode cL_act 196 = .ok (.iaload, 1) := by decide +kernel
theorem dL_act_197 : decode cL_act 197 = .ok (.if_icmp .ne 7, 3) := by decide +kernel
theorem dL_act_200 : decode cL_act 200 = .ok (.iconst 1, 1) := by decide +kernel
theorem dL_act_201 : decode cL_act 201 = .ok (.goto 4, 3) := by decide +kernel
theorem dL_act_204 : decode cL_act 204 = .ok (.iconst 0, 1) := by decide +kernel
theorem dL_act_205 : decode cL_act 205 = .ok (.ireturn, 1) := by decide +kernel
end
section
theorem dL_law_0 : decode cL_law 0 = .ok (.new 9, 3) := by decide +kernel
theorem dL_law_3 : decode cL_law 3 = .ok (.dup, 1) := by decide +kernel
theorem dL_law_4 : decode cL_law 4 = .ok (.invokespecial 54, 3) := by decide +kernel
theorem dL_law_7 : decode cL_law 7 = .ok (.astore_n 1, 1) := by decide +kernel
theorem dL_law_8 : decode cL_law 8 = .ok (.bipush 21, 2) := by decide +kernel
theorem dL_law_10 : decode cL_law 10 = .ok (.newarray .int, 2) := by decide +kernel
theorem dL_law_12 : decode cL_law 12 = .ok (.astore_n 2, 1) := by decide +kernel
theorem dL_law_13 : decode cL_law 13 = .ok (.bipush 21, 2) := by decide +kernel
theorem dL_law_15 : decode cL_law 15 = .ok (.newarray .int, 2) := by decide +kernel
theorem dL_law_17 : decode cL_law 17 = .ok (.astore_n 3, 1) := by decide +kernel
theorem dL_law_18 : decode cL_law 18 = .ok (.bipush 30, 2) := by decide +kernel
theorem dL_law_20 : decode cL_law 20 = .ok (.newarray .long, 2) := by decide +kernel
theorem dL_law_22 : decode cL_law 22 = .ok (.astore 4, 2) := by decide +kernel
theorem dL_law_24 : decode cL_law 24 = .ok (.bipush 6, 2) := by decide +kernel
theorem dL_law_26 : decode cL_law 26 = .ok (.newarray .int, 2) := by decide +kernel
theorem dL_law_28 : decode cL_law 28 = .ok (.astore 5, 2) := by decide +kernel
theorem dL_law_30 : decode cL_law 30 = .ok (.bipush 6, 2) := by decide +kernel
theorem dL_law_32 : decode cL_law 32 = .ok (.newarray .int, 2) := by decide +kernel
theorem dL_law_34 : decode cL_law 34 = .ok (.astore 6, 2) := by decide +kernel
theorem dL_law_36 : decode cL_law 36 = .ok (.iconst 0, 1) := by decide +kernel
theorem dL_law_37 : decode cL_law 37 = .ok (.istore 7, 2) := by decide +kernel
theorem dL_law_39 : decode cL_law 39 = .ok (.iload 7, 2) := by decide +kernel
theorem dL_law_41 : decode cL_law 41 = .ok (.iconst 2, 1) := by decide +kernel
theorem dL_law_42 : decode cL_law 42 = .ok (.if_icmp .ge 1234, 3) := by decide +kernel
theorem dL_law_45 : decode cL_law 45 = .ok (.bipush 29, 2) := by decide +kernel
theorem dL_law_47 : decode cL_law 47 = .ok (.iload 7, 2) := by decide +kernel
theorem dL_law_49 : decode cL_law 49 = .ok (.imul, 1) := by decide +kernel
theorem dL_law_50 : decode cL_law 50 = .ok (.istore 8, 2) := by decide +kernel
theorem dL_law_52 : decode cL_law 52 = .ok (.aload_n 1, 1) := by decide +kernel
theorem dL_law_53 : decode cL_law 53 = .ok (.aload_n 0, 1) := by decide +kernel
theorem dL_law_54 : decode cL_law 54 = .ok (.iload 8, 2) := by decide +kernel
theorem dL_law_56 : decode cL_law 56 = .ok (.invokestatic 55, 3) := by decide +kernel
theorem dL_law_59 : decode cL_law 59 = .ok (.aload_n 0, 1) := by decide +kernel
theorem dL_law_60 : decode cL_law 60 = .ok (.iload 8, 2) := by decide +kernel
theorem dL_law_62 : decode cL_law 62 = .ok (.iconst 1, 1) := by decide +kernel
theorem dL_law_63 : decode cL_law 63 = .ok (.iadd, 1) := by decide +kernel
theorem dL_law_64 : decode cL_law 64 = .ok (.invokestatic 55, 3) := by decide +kernel
theorem dL_law_67 : decode cL_law 67 = .ok (.aload_n 2, 1) := by decide +kernel
theorem dL_law_68 : decode cL_law 68 = .ok (.invokestatic 58, 3) := by decide +kernel
theorem dL_law_71 : decode cL_law 71 = .ok (.ifCond .eq 10, 3) := by decide +kernel
theorem dL_law_74 : decode cL_law 74 = .ok (.aload_n 1, 1) := by decide +kernel
theorem dL_law_75 : decode cL_law 75 = .ok (.invokevirtual 61, 3) := by decide +kernel
theorem dL_law_78 : decode cL_law 78 = .ok (.ifCond .eq 5, 3) := by decide +kernel
theorem dL_law_81 : decode cL_law 81 = .ok (.iconst 0, 1) := by decide +kernel
theorem dL_law_82 : decode cL_law 82 = .ok (.ireturn, 1) := by decide +kernel
theorem dL_law_83 : decode cL_law 83 = .ok (.aload_n 2, 1) := by decide +kernel
theorem dL_law_84 : decode cL_law 84 = .ok (.iconst 0, 1) := by decide +kernel
theorem dL_law_85 : decode cL_law 85 = .ok (.iaload, 1) := by decide +kernel
theorem dL_law_86 : decode cL_law 86 = .ok (.istore 9, 2) := by decide +kernel
theorem dL_law_88 : decode cL_law 88 = .ok (.iconst 0, 1) := by decide +kernel
theorem dL_law_89 : decode cL_law 89 = .ok (.istore 10, 2) := by decide +kernel
theorem dL_law_91 : decode cL_law 91 = .ok (.iconst 0, 1) := by decide +kernel
theorem dL_law_92 : decode cL_law 92 = .ok (.istore 11, 2) := by decide +kernel
theorem dL_law_94 : decode cL_law 94 = .ok (.iconst 0, 1) := by decide +kernel
theorem dL_law_95 : decode cL_law 95 = .ok (.istore 12, 2) := by decide +kernel
theorem dL_law_97 : decode cL_law 97 = .ok (.iload 12, 2) := by decide +kernel
theorem dL_law_99 : decode cL_law 99 = .ok (.bipush 22, 2) := by decide +kernel
theorem dL_law_101 : decode cL_law 101 = .ok (.if_icmp .ge 923, 3) := by decide +kernel
theorem dL_law_104 : decode cL_law 104 = .ok (.aload_n 0, 1) := by decide +kernel
theorem dL_law_105 : decode cL_law 105 = .ok (.iload 8, 2) := by decide +kernel
theorem dL_law_107 : decode cL_law 107 = .ok (.iconst 2, 1) := by decide +kernel
theorem dL_law_108 : decode cL_law 108 = .ok (.iadd, 1) := by decide +kernel
theorem dL_law_109 : decode cL_law 109 = .ok (.iload 12, 2) := by decide +kernel
theorem dL_law_111 : decode cL_law 111 = .ok (.iadd, 1) := by decide +kernel
theorem dL_law_112 : decode cL_law 112 = .ok (.invokestatic 55, 3) := by decide +kernel
theorem dL_law_115 : decode cL_law 115 = .ok (.istore 13, 2) := by decide +kernel
theorem dL_law_117 : decode cL_law 117 = .ok (.aload_n 1, 1) := by decide +kernel
theorem dL_law_118 : decode cL_law 118 = .ok (.iload 13, 2) := by decide +kernel
theorem dL_law_120 : decode cL_law 120 = .ok (.aload_n 2, 1) := by decide +kernel
theorem dL_law_121 : decode cL_law 121 = .ok (.aload 4, 2) := by decide +kernel
theorem dL_law_123 : decode cL_law 123 = .ok (.invokestatic 64, 3) := by decide +kernel
theorem dL_law_126 : decode cL_law 126 = .ok (.ifCond .ne 5, 3) := by decide +kernel
theorem dL_law_129 : decode cL_law 129 = .ok (.iconst 0, 1) := by decide +kernel
theorem dL_law_130 : decode cL_law 130 = .ok (.ireturn, 1) := by decide +kernel
theorem dL_law_131 : decode cL_law 131 = .ok (.iload 12, 2) := by decide +kernel
theorem dL_law_133 : decode cL_law 133 = .ok (.iconst 4, 1) := by decide +kernel
theorem dL_law_134 : decode cL_law 134 = .ok (.irem, 1) := by decide +kernel
theorem dL_law_135 : decode cL_law 135 = .ok (.ifCond .ne 90, 3) := by decide +kernel
theorem dL_law_138 : decode cL_law 138 = .ok (.iconst 1, 1) := by decide +kernel
theorem dL_law_139 : decode cL_law 139 = .ok (.iload 13, 2) := by decide +kernel
theorem dL_law_141 : decode cL_law 141 = .ok (.sipush 512, 3) := by decide +kernel
theorem dL_law_144 : decode cL_law 144 = .ok (.idiv, 1) := by decide +kernel
theorem dL_law_145 : decode cL_law 145 = .ok (.bipush 9, 2) := by decide +kernel
theorem dL_law_147 : decode cL_law 147 = .ok (.irem, 1) := by decide +kernel
theorem dL_law_148 : decode cL_law 148 = .ok (.iadd, 1) := by decide +kernel
theorem dL_law_149 : decode cL_law 149 = .ok (.istore 14, 2) := by decide +kernel
theorem dL_law_151 : decode cL_law 151 = .ok (.aload_n 1, 1) := by decide +kernel
theorem dL_law_152 : decode cL_law 152 = .ok (.iload 14, 2) := by decide +kernel
theorem dL_law_154 : decode cL_law 154 = .ok (.iload 13, 2) := by decide +kernel
theorem dL_law_156 : decode cL_law 156 = .ok (.sipush 8192, 3) := by decide +kernel
theorem dL_law_159 : decode cL_law 159 = .ok (.idiv, 1) := by decide +kernel
theorem dL_law_160 : decode cL_law 160 = .ok (.bipush 13, 2) := by decide +kernel
theorem dL_law_162 : decode cL_law 162 = .ok (.irem, 1) := by decide +kernel
theorem dL_law_163 : decode cL_law 163 = .ok (.invokevirtual 68, 3) := by decide +kernel
theorem dL_law_166 : decode cL_law 166 = .ok (.iload 11, 2) := by decide +kernel
theorem dL_law_168 : decode cL_law 168 = .ok (.bipush 6, 2) := by decide +kernel
theorem dL_law_170 : decode cL_law 170 = .ok (.if_icmp .ne 8, 3) := by decide +kernel
theorem dL_law_173 : decode cL_law 173 = .ok (.bipush (-104), 2) := by decide +kernel
theorem dL_law_175 : decode cL_law 175 = .ok (.goto 7, 3) := by decide +kernel
theorem dL_law_178 : decode cL_law 178 = .ok (.iload 11, 2) := by decide +kernel
theorem dL_law_180 : decode cL_law 180 = .ok (.iconst 1, 1) := by decide +kernel
theorem dL_law_181 : decode cL_law 181 = .ok (.iadd, 1) := by decide +kernel
theorem dL_law_182 : decode cL_law 182 = .ok (.if_icmp .eq 5, 3) := by decide +kernel
theorem dL_law_185 : decode cL_law 185 = .ok (.iconst 0, 1) := by decide +kernel
theorem dL_law_186 : decode cL_law 186 = .ok (.ireturn, 1) := by decide +kernel
theorem dL_law_187 : decode cL_law 187 = .ok (.iload 11, 2) := by decide +kernel
theorem dL_law_189 : decode cL_law 189 = .ok (.bipush 6, 2) := by decide +kernel
theorem dL_law_191 : decode cL_law 191 = .ok (.if_icmp .ge 34, 3) := by decide +kernel
theorem dL_law_194 : decode cL_law 194 = .ok (.iload 10, 2) := by decide +kernel
theorem dL_law_196 : decode cL_law 196 = .ok (.iload 14, 2) := by decide +kernel
theorem dL_law_198 : decode cL_law 198 = .ok (.iadd, 1) := by decide +kernel
theorem dL_law_199 : decode cL_law 199 = .ok (.istore 10, 2) := by decide +kernel
theorem dL_law_201 : decode cL_law 201 = .ok (.aload 6, 2) := by decide +kernel
theorem dL_law_203 : decode cL_law 203 = .ok (.iload 11, 2) := by decide +kernel
theorem dL_law_205 : decode cL_law 205 = .ok (.iload 14, 2) := by decide +kernel
theorem dL_law_207 : decode cL_law 207 = .ok (.iastore, 1) := by decide +kernel
theorem dL_law_208 : decode cL_law 208 = .ok (.aload 5, 2) := by decide +kernel
theorem dL_law_210 : decode cL_law 210 = .ok (.iload 11, 2) := by decide +kernel
theorem dL_law_212 : decode cL_law 212 = .ok (.iload 13, 2) := by decide +kernel
theorem dL_law_214 : decode cL_law 214 = .ok (.sipush 8192, 3) := by decide +kernel
theorem dL_law_217 : decode cL_law 217 = .ok (.idiv, 1) := by decide +kernel
theorem dL_law_218 : decode cL_law 218 = .ok (.bipush 13, 2) := by decide +kernel
theorem dL_law_220 : decode cL_law 220 = .ok (.irem, 1) := by decide +kernel
theorem dL_law_221 : decode cL_law 221 = .ok (.iastore, 1) := by decide +kernel
theorem dL_law_222 : decode cL_law 222 = .ok (.iinc 11 1, 3) := by decide +kernel
theorem dL_law_225 : decode cL_law 225 = .ok (.iconst 0, 1) := by decide +kernel
theorem dL_law_226 : decode cL_law 226 = .ok (.istore 14, 2) := by decide +kernel
theorem dL_law_228 : decode cL_law 228 = .ok (.iconst 0, 1) := by decide +kernel
theorem dL_law_229 : decode cL_law 229 = .ok (.istore 15, 2) := by decide +kernel
theorem dL_law_231 : decode cL_law 231 = .ok (.iconst 0, 1) := by decide +kernel
theorem dL_law_232 : decode cL_law 232 = .ok (.istore 16, 2) := by decide +kernel
theorem dL_law_234 : decode cL_law 234 = .ok (.iload 16, 2) := by decide +kernel
theorem dL_law_236 : decode cL_law 236 = .ok (.iload 9, 2) := by decide +kernel
theorem dL_law_238 : decode cL_law 238 = .ok (.if_icmp .ge 504, 3) := by decide +kernel
theorem dL_law_241 : decode cL_law 241 = .ok (.iconst 3, 1) := by decide +kernel
theorem dL_law_242 : decode cL_law 242 = .ok (.iconst 3, 1) := by decide +kernel
theorem dL_law_243 : decode cL_law 243 = .ok (.iload 16, 2) := by decide +kernel
theorem dL_law_245 : decode cL_law 245 = .ok (.imul, 1) := by decide +kernel
theorem dL_law_246 : decode cL_law 246 = .ok (.iadd, 1) := by decide +kernel
theorem dL_law_247 : decode cL_law 247 = .ok (.istore 17, 2) := by decide +kernel
theorem dL_law_249 : decode cL_law 249 = .ok (.iload 13, 2) := by decide +kernel
theorem dL_law_251 : decode cL_law 251 = .ok (.bipush 64, 2) := by decide +kernel
theorem dL_law_253 : decode cL_law 253 = .ok (.idiv, 1) := by decide +kernel
theorem dL_law_254 : decode cL_law 254 = .ok (.aload_n 2, 1) := by decide +kernel
theorem dL_law_255 : decode cL_law 255 = .ok (.iconst 1, 1) := by decide +kernel
theorem dL_law_256 : decode cL_law 256 = .ok (.iaload, 1) := by decide +kernel
theorem dL_law_257 : decode cL_law 257 = .ok (.iconst 1, 1) := by decide +kernel
theorem dL_law_258 : decode cL_law 258 = .ok (.iadd, 1) := by decide +kernel
theorem dL_law_259 : decode cL_law 259 = .ok (.irem, 1) := by decide +kernel
theorem dL_law_260 : decode cL_law 260 = .ok (.istore 18, 2) := by decide +kernel
theorem dL_law_262 : decode cL_law 262 = .ok (.iconst (-1), 1) := by decide +kernel
theorem dL_law_263 : decode cL_law 263 = .ok (.istore 19, 2) := by decide +kernel
theorem dL_law_265 : decode cL_law 265 = .ok (.iload 9, 2) := by decide +kernel
theorem dL_law_267 : decode cL_law 267 = .ok (.iconst 1, 1) := by decide +kernel
theorem dL_law_268 : decode cL_law 268 = .ok (.isub, 1) := by decide +kernel
theorem dL_law_269 : decode cL_law 269 = .ok (.istore 20, 2) := by decide +kernel
theorem dL_law_271 : decode cL_law 271 = .ok (.iload 20, 2) := by decide +kernel
theorem dL_law_273 : decode cL_law 273 = .ok (.ifCond .lt 33, 3) := by decide +kernel
theorem dL_law_276 : decode cL_law 276 = .ok (.aload_n 2, 1) := by decide +kernel
theorem dL_law_277 : decode cL_law 277 = .ok (.iload 20, 2) := by decide +kernel
theorem dL_law_279 : decode cL_law 279 = .ok (.invokestatic 31, 3) := by decide +kernel
theorem dL_law_282 : decode cL_law 282 = .ok (.aload_n 2, 1) := by decide +kernel
theorem dL_law_283 : decode cL_law 283 = .ok (.iload 16, 2) := by decide +kernel
theorem dL_law_285 : decode cL_law 285 = .ok (.invokestatic 31, 3) := by decide +kernel
theorem dL_law_288 : decode cL_law 288 = .ok (.if_icmp .ne 8, 3) := by decide +kernel
theorem dL_law_291 : decode cL_law 291 = .ok (.iload 20, 2) := by decide +kernel
theorem dL_law_293 : decode cL_law 293 = .ok (.goto 5, 3) := by decide +kernel
theorem dL_law_296 : decode cL_law 296 = .ok (.iload 19, 2) := by decide +kernel
theorem dL_law_298 : decode cL_law 298 = .ok (.istore 19, 2) := by decide +kernel
theorem dL_law_300 : decode cL_law 300 = .ok (.iinc 20 (-1), 3) := by decide +kernel
theorem dL_law_303 : decode cL_law 303 = .ok (.goto (-32), 3) := by decide +kernel
theorem dL_law_306 : decode cL_law 306 = .ok (.iload 15, 2) := by decide +kernel
theorem dL_law_308 : decode cL_law 308 = .ok (.iload 19, 2) := by decide +kernel
theorem dL_law_310 : decode cL_law 310 = .ok (.iload 16, 2) := by decide +kernel
theorem dL_law_312 : decode cL_law 312 = .ok (.if_icmp .ne 7, 3) := by decide +kernel
theorem dL_law_315 : decode cL_law 315 = .ok (.iconst 1, 1) := by decide +kernel
theorem dL_law_316 : decode cL_law 316 = .ok (.goto 4, 3) := by decide +kernel
theorem dL_law_319 : decode cL_law 319 = .ok (.iconst 0, 1) := by decide +kernel
theorem dL_law_320 : decode cL_law 320 = .ok (.iadd, 1) := by decide +kernel
theorem dL_law_321 : decode cL_law 321 = .ok (.istore 15, 2) := by decide +kernel
theorem dL_law_323 : decode cL_law 323 = .ok (.iconst 0, 1) := by decide +kernel
theorem dL_law_324 : decode cL_law 324 = .ok (.istore 20, 2) := by decide +kernel
theorem dL_law_326 : decode cL_law 326 = .ok (.iconst 0, 1) := by decide +kernel
theorem dL_law_327 : decode cL_law 327 = .ok (.istore 21, 2) := by decide +kernel
theorem dL_law_329 : decode cL_law 329 = .ok (.iload 21, 2) := by decide +kernel
theorem dL_law_331 : decode cL_law 331 = .ok (.iload 11, 2) := by decide +kernel
theorem dL_law_333 : decode cL_law 333 = .ok (.if_icmp .ge 44, 3) := by decide +kernel
theorem dL_law_336 : decode cL_law 336 = .ok (.iload 19, 2) := by decide +kernel
theorem dL_law_338 : decode cL_law 338 = .ok (.iload 16, 2) := by decide +kernel
theorem dL_law_340 : decode cL_law 340 = .ok (.if_icmp .ne 37, 3) := by decide +kernel
theorem dL_law_343 : decode cL_law 343 = .ok (.iload 20, 2) := by decide +kernel
theorem dL_law_345 : decode cL_law 345 = .ok (.aload 5, 2) := by decide +kernel
theorem dL_law_347 : decode cL_law 347 = .ok (.iload 21, 2) := by decide +kernel
theorem dL_law_349 : decode cL_law 349 = .ok (.iaload, 1) := by decide +kernel
theorem dL_law_350 : decode cL_law 350 = .ok (.aload_n 2, 1) := by decide +kernel
theorem dL_law_351 : decode cL_law 351 = .ok (.iload 16, 2) := by decide +kernel
theorem dL_law_353 : decode cL_law 353 = .ok (.invokestatic 31, 3) := by decide +kernel
theorem dL_law_356 : decode cL_law 356 = .ok (.if_icmp .ne 11, 3) := by decide +kernel
theorem dL_law_359 : decode cL_law 359 = .ok (.aload 6, 2) := by decide +kernel
theorem dL_law_361 : decode cL_law 361 = .ok (.iload 21, 2) := by decide +kernel
theorem dL_law_363 : decode cL_law 363 = .ok (.iaload, 1) := by decide +kernel
theorem dL_law_364 : decode cL_law 364 = .ok (.goto 4, 3) := by decide +kernel
theorem dL_law_367 : decode cL_law 367 = .ok (.iconst 0, 1) := by decide +kernel
theorem dL_law_368 : decode cL_law 368 = .ok (.iadd, 1) := by decide +kernel
theorem dL_law_369 : decode cL_law 369 = .ok (.istore 20, 2) := by decide +kernel
theorem dL_law_371 : decode cL_law 371 = .ok (.iinc 21 1, 3) := by decide +kernel
theorem dL_law_374 : decode cL_law 374 = .ok (.goto (-45), 3) := by decide +kernel
theorem dL_law_377 : decode cL_law 377 = .ok (.iload 14, 2) := by decide +kernel
theorem dL_law_379 : decode cL_law 379 = .ok (.iload 20, 2) := by decide +kernel
theorem dL_law_381 : decode cL_law 381 = .ok (.iadd, 1) := by decide +kernel
theorem dL_law_382 : decode cL_law 382 = .ok (.istore 14, 2) := by decide +kernel
theorem dL_law_384 : decode cL_law 384 = .ok (.aload_n 1, 1) := by decide +kernel
theorem dL_law_385 : decode cL_law 385 = .ok (.iload 16, 2) := by decide +kernel
theorem dL_law_387 : decode cL_law 387 = .ok (.iconst 0, 1) := by decide +kernel
theorem dL_law_388 : decode cL_law 388 = .ok (.invokevirtual 71, 3) := by decide +kernel
theorem dL_law_391 : decode cL_law 391 = .ok (.aload_n 2, 1) := by decide +kernel
theorem dL_law_392 : decode cL_law 392 = .ok (.iload 17, 2) := by decide +kernel
theorem dL_law_394 : decode cL_law 394 = .ok (.iaload, 1) := by decide +kernel
theorem dL_law_395 : decode cL_law 395 = .ok (.if_icmp .ne 118, 3) := by decide +kernel
theorem dL_law_398 : decode cL_law 398 = .ok (.aload_n 1, 1) := by decide +kernel
theorem dL_law_399 : decode cL_law 399 = .ok (.iload 16, 2) := by decide +kernel
theorem dL_law_401 : decode cL_law 401 = .ok (.iconst 1, 1) := by decide +kernel
theorem dL_law_402 : decode cL_law 402 = .ok (.invokevirtual 71, 3) := by decide +kernel
theorem dL_law_405 : decode cL_law 405 = .ok (.aload_n 2, 1) := by decide +kernel
theorem dL_law_406 : decode cL_law 406 = .ok (.iload 17, 2) := by decide +kernel
theorem dL_law_408 : decode cL_law 408 = .ok (.iconst 1, 1) := by decide +kernel
theorem dL_law_409 : decode cL_law 409 = .ok (.iadd, 1) := by decide +kernel
theorem dL_law_410 : decode cL_law 410 = .ok (.iaload, 1) := by decide +kernel
theorem dL_law_411 : decode cL_law 411 = .ok (.if_icmp .ne 102, 3) := by decide +kernel
theorem dL_law_414 : decode cL_law 414 = .ok (.aload_n 1, 1) := by decide +kernel
theorem dL_law_415 : decode cL_law 415 = .ok (.iload 16, 2) := by decide +kernel
theorem dL_law_417 : decode cL_law 417 = .ok (.iconst 2, 1) := by decide +kernel
theorem dL_law_418 : decode cL_law 418 = .ok (.invokevirtual 71, 3) := by decide +kernel
theorem dL_law_421 : decode cL_law 421 = .ok (.aload_n 2, 1) := by decide +kernel
theorem dL_law_422 : decode cL_law 422 = .ok (.iload 16, 2) := by decide +kernel
theorem dL_law_424 : decode cL_law 424 = .ok (.invokestatic 31, 3) := by decide +kernel
theorem dL_law_427 : decode cL_law 427 = .ok (.if_icmp .ne 86, 3) := by decide +kernel
theorem dL_law_430 : decode cL_law 430 = .ok (.aload_n 1, 1) := by decide +kernel
theorem dL_law_431 : decode cL_law 431 = .ok (.iload 16, 2) := by decide +kernel
theorem dL_law_433 : decode cL_law 433 = .ok (.iconst 3, 1) := by decide +kernel
end
section
theorem dL_law_434 : decode cL_law 434 = .ok (.invokevirtual 71, 3) := by decide +kernel
theorem dL_law_437 : decode cL_law 437 = .ok (.aload_n 2, 1) := by decide +kernel
theorem dL_law_438 : decode cL_law 438 = .ok (.iload 17, 2) := by decide +kernel
theorem dL_law_440 : decode cL_law 440 = .ok (.iconst 2, 1) := by decide +kernel
theorem dL_law_441 : decode cL_law 441 = .ok (.iadd, 1) := by decide +kernel
theorem dL_law_442 : decode cL_law 442 = .ok (.iaload, 1) := by decide +kernel
theorem dL_law_443 : decode cL_law 443 = .ok (.if_icmp .ne 70, 3) := by decide +kernel
theorem dL_law_446 : decode cL_law 446 = .ok (.aload_n 1, 1) := by decide +kernel
theorem dL_law_447 : decode cL_law 447 = .ok (.iload 16, 2) := by decide +kernel
theorem dL_law_449 : decode cL_law 449 = .ok (.iconst 4, 1) := by decide +kernel
theorem dL_law_450 : decode cL_law 450 = .ok (.invokevirtual 71, 3) := by decide +kernel
theorem dL_law_453 : decode cL_law 453 = .ok (.iload 20, 2) := by decide +kernel
theorem dL_law_455 : decode cL_law 455 = .ok (.if_icmp .ne 58, 3) := by decide +kernel
theorem dL_law_458 : decode cL_law 458 = .ok (.aload_n 1, 1) := by decide +kernel
theorem dL_law_459 : decode cL_law 459 = .ok (.iload 16, 2) := by decide +kernel
theorem dL_law_461 : decode cL_law 461 = .ok (.iconst 5, 1) := by decide +kernel
theorem dL_law_462 : decode cL_law 462 = .ok (.invokevirtual 71, 3) := by decide +kernel
theorem dL_law_465 : decode cL_law 465 = .ok (.aload_n 2, 1) := by decide +kernel
theorem dL_law_466 : decode cL_law 466 = .ok (.iload 16, 2) := by decide +kernel
theorem dL_law_468 : decode cL_law 468 = .ok (.invokestatic 74, 3) := by decide +kernel
theorem dL_law_471 : decode cL_law 471 = .ok (.if_icmp .ne 42, 3) := by decide +kernel
theorem dL_law_474 : decode cL_law 474 = .ok (.aload_n 1, 1) := by decide +kernel
theorem dL_law_475 : decode cL_law 475 = .ok (.iload 16, 2) := by decide +kernel
theorem dL_law_477 : decode cL_law 477 = .ok (.iload 18, 2) := by decide +kernel
theorem dL_law_479 : decode cL_law 479 = .ok (.invokevirtual 77, 3) := by decide +kernel
theorem dL_law_482 : decode cL_law 482 = .ok (.aload_n 2, 1) := by decide +kernel
theorem dL_law_483 : decode cL_law 483 = .ok (.aload 4, 2) := by decide +kernel
theorem dL_law_485 : decode cL_law 485 = .ok (.iload 16, 2) := by decide +kernel
theorem dL_law_487 : decode cL_law 487 = .ok (.iload 18, 2) := by decide +kernel
theorem dL_law_489 : decode cL_law 489 = .ok (.invokestatic 80, 3) := by decide +kernel
theorem dL_law_492 : decode cL_law 492 = .ok (.if_icmp .ne 21, 3) := by decide +kernel
theorem dL_law_495 : decode cL_law 495 = .ok (.aload_n 1, 1) := by decide +kernel
theorem dL_law_496 : decode cL_law 496 = .ok (.aload_n 2, 1) := by decide +kernel
theorem dL_law_497 : decode cL_law 497 = .ok (.iload 16, 2) := by decide +kernel
theorem dL_law_499 : decode cL_law 499 = .ok (.invokestatic 31, 3) := by decide +kernel
theorem dL_law_502 : decode cL_law 502 = .ok (.aload_n 2, 1) := by decide +kernel
theorem dL_law_503 : decode cL_law 503 = .ok (.iconst 1, 1) := by decide +kernel
theorem dL_law_504 : decode cL_law 504 = .ok (.iaload, 1) := by decide +kernel
theorem dL_law_505 : decode cL_law 505 = .ok (.invokevirtual 83, 3) := by decide +kernel
theorem dL_law_508 : decode cL_law 508 = .ok (.iload 19, 2) := by decide +kernel
theorem dL_law_510 : decode cL_law 510 = .ok (.if_icmp .eq 5, 3) := by decide +kernel
theorem dL_law_513 : decode cL_law 513 = .ok (.iconst 0, 1) := by decide +kernel
theorem dL_law_514 : decode cL_law 514 = .ok (.ireturn, 1) := by decide +kernel
theorem dL_law_515 : decode cL_law 515 = .ok (.iconst (-1), 1) := by decide +kernel
theorem dL_law_516 : decode cL_law 516 = .ok (.istore 21, 2) := by decide +kernel
theorem dL_law_518 : decode cL_law 518 = .ok (.iload 9, 2) := by decide +kernel
theorem dL_law_520 : decode cL_law 520 = .ok (.iconst 1, 1) := by decide +kernel
theorem dL_law_521 : decode cL_law 521 = .ok (.isub, 1) := by decide +kernel
theorem dL_law_522 : decode cL_law 522 = .ok (.istore 22, 2) := by decide +kernel
theorem dL_law_524 : decode cL_law 524 = .ok (.iload 22, 2) := by decide +kernel
theorem dL_law_526 : decode cL_law 526 = .ok (.ifCond .lt 40, 3) := by decide +kernel
theorem dL_law_529 : decode cL_law 529 = .ok (.aload_n 2, 1) := by decide +kernel
theorem dL_law_530 : decode cL_law 530 = .ok (.aload 4, 2) := by decide +kernel
theorem dL_law_532 : decode cL_law 532 = .ok (.iload 22, 2) := by decide +kernel
theorem dL_law_534 : decode cL_law 534 = .ok (.iload 18, 2) := by decide +kernel
theorem dL_law_536 : decode cL_law 536 = .ok (.invokestatic 80, 3) := by decide +kernel
theorem dL_law_539 : decode cL_law 539 = .ok (.iload 13, 2) := by decide +kernel
theorem dL_law_541 : decode cL_law 541 = .ok (.sipush 4096, 3) := by decide +kernel
theorem dL_law_544 : decode cL_law 544 = .ok (.idiv, 1) := by decide +kernel
theorem dL_law_545 : decode cL_law 545 = .ok (.bipush 12, 2) := by decide +kernel
theorem dL_law_547 : decode cL_law 547 = .ok (.irem, 1) := by decide +kernel
theorem dL_law_548 : decode cL_law 548 = .ok (.if_icmp .ne 8, 3) := by decide +kernel
theorem dL_law_551 : decode cL_law 551 = .ok (.iload 22, 2) := by decide +kernel
theorem dL_law_553 : decode cL_law 553 = .ok (.goto 5, 3) := by decide +kernel
theorem dL_law_556 : decode cL_law 556 = .ok (.iload 21, 2) := by decide +kernel
theorem dL_law_558 : decode cL_law 558 = .ok (.istore 21, 2) := by decide +kernel
theorem dL_law_560 : decode cL_law 560 = .ok (.iinc 22 (-1), 3) := by decide +kernel
theorem dL_law_563 : decode cL_law 563 = .ok (.goto (-39), 3) := by decide +kernel
theorem dL_law_566 : decode cL_law 566 = .ok (.aload_n 1, 1) := by decide +kernel
theorem dL_law_567 : decode cL_law 567 = .ok (.iload 13, 2) := by decide +kernel
theorem dL_law_569 : decode cL_law 569 = .ok (.sipush 4096, 3) := by decide +kernel
theorem dL_law_572 : decode cL_law 572 = .ok (.idiv, 1) := by decide +kernel
theorem dL_law_573 : decode cL_law 573 = .ok (.bipush 12, 2) := by decide +kernel
theorem dL_law_575 : decode cL_law 575 = .ok (.irem, 1) := by decide +kernel
theorem dL_law_576 : decode cL_law 576 = .ok (.iload 18, 2) := by decide +kernel
theorem dL_law_578 : decode cL_law 578 = .ok (.invokevirtual 83, 3) := by decide +kernel
theorem dL_law_581 : decode cL_law 581 = .ok (.iload 21, 2) := by decide +kernel
theorem dL_law_583 : decode cL_law 583 = .ok (.if_icmp .eq 5, 3) := by decide +kernel
theorem dL_law_586 : decode cL_law 586 = .ok (.iconst 0, 1) := by decide +kernel
theorem dL_law_587 : decode cL_law 587 = .ok (.ireturn, 1) := by decide +kernel
theorem dL_law_588 : decode cL_law 588 = .ok (.iconst 0, 1) := by decide +kernel
theorem dL_law_589 : decode cL_law 589 = .ok (.istore 22, 2) := by decide +kernel
theorem dL_law_591 : decode cL_law 591 = .ok (.iload 22, 2) := by decide +kernel
theorem dL_law_593 : decode cL_law 593 = .ok (.iconst 5, 1) := by decide +kernel
theorem dL_law_594 : decode cL_law 594 = .ok (.if_icmp .ge 56, 3) := by decide +kernel
theorem dL_law_597 : decode cL_law 597 = .ok (.aload_n 1, 1) := by decide +kernel
theorem dL_law_598 : decode cL_law 598 = .ok (.iload 16, 2) := by decide +kernel
theorem dL_law_600 : decode cL_law 600 = .ok (.iload 22, 2) := by decide +kernel
theorem dL_law_602 : decode cL_law 602 = .ok (.invokevirtual 86, 3) := by decide +kernel
theorem dL_law_605 : decode cL_law 605 = .ok (.iload 22, 2) := by decide +kernel
theorem dL_law_607 : decode cL_law 607 = .ok (.ifCond .eq 26, 3) := by decide +kernel
theorem dL_law_610 : decode cL_law 610 = .ok (.iload 22, 2) := by decide +kernel
theorem dL_law_612 : decode cL_law 612 = .ok (.aload_n 2, 1) := by decide +kernel
theorem dL_law_613 : decode cL_law 613 = .ok (.iload 17, 2) := by decide +kernel
theorem dL_law_615 : decode cL_law 615 = .ok (.iaload, 1) := by decide +kernel
theorem dL_law_616 : decode cL_law 616 = .ok (.if_icmp .eq 17, 3) := by decide +kernel
theorem dL_law_619 : decode cL_law 619 = .ok (.iload 22, 2) := by decide +kernel
theorem dL_law_621 : decode cL_law 621 = .ok (.iconst 2, 1) := by decide +kernel
theorem dL_law_622 : decode cL_law 622 = .ok (.if_icmp .ne 16, 3) := by decide +kernel
theorem dL_law_625 : decode cL_law 625 = .ok (.aload_n 2, 1) := by decide +kernel
theorem dL_law_626 : decode cL_law 626 = .ok (.iload 17, 2) := by decide +kernel
theorem dL_law_628 : decode cL_law 628 = .ok (.iaload, 1) := by decide +kernel
theorem dL_law_629 : decode cL_law 629 = .ok (.iconst 4, 1) := by decide +kernel
theorem dL_law_630 : decode cL_law 630 = .ok (.if_icmp .ne 8, 3) := by decide +kernel
theorem dL_law_633 : decode cL_law 633 = .ok (.iload 16, 2) := by decide +kernel
theorem dL_law_635 : decode cL_law 635 = .ok (.goto 4, 3) := by decide +kernel
theorem dL_law_638 : decode cL_law 638 = .ok (.iconst (-1), 1) := by decide +kernel
theorem dL_law_639 : decode cL_law 639 = .ok (.if_icmp .eq 5, 3) := by decide +kernel
theorem dL_law_642 : decode cL_law 642 = .ok (.iconst 0, 1) := by decide +kernel
theorem dL_law_643 : decode cL_law 643 = .ok (.ireturn, 1) := by decide +kernel
theorem dL_law_644 : decode cL_law 644 = .ok (.iinc 22 1, 3) := by decide +kernel
theorem dL_law_647 : decode cL_law 647 = .ok (.goto (-56), 3) := by decide +kernel
theorem dL_law_650 : decode cL_law 650 = .ok (.iload 13, 2) := by decide +kernel
theorem dL_law_652 : decode cL_law 652 = .ok (.sipush 256, 3) := by decide +kernel
theorem dL_law_655 : decode cL_law 655 = .ok (.idiv, 1) := by decide +kernel
theorem dL_law_656 : decode cL_law 656 = .ok (.bipush 40, 2) := by decide +kernel
theorem dL_law_658 : decode cL_law 658 = .ok (.irem, 1) := by decide +kernel
theorem dL_law_659 : decode cL_law 659 = .ok (.istore 22, 2) := by decide +kernel
theorem dL_law_661 : decode cL_law 661 = .ok (.iconst (-1), 1) := by decide +kernel
theorem dL_law_662 : decode cL_law 662 = .ok (.istore 23, 2) := by decide +kernel
theorem dL_law_664 : decode cL_law 664 = .ok (.bipush 99, 2) := by decide +kernel
theorem dL_law_666 : decode cL_law 666 = .ok (.istore 24, 2) := by decide +kernel
theorem dL_law_668 : decode cL_law 668 = .ok (.iload 24, 2) := by decide +kernel
theorem dL_law_670 : decode cL_law 670 = .ok (.ifCond .lt 51, 3) := by decide +kernel
theorem dL_law_673 : decode cL_law 673 = .ok (.aload_n 2, 1) := by decide +kernel
theorem dL_law_674 : decode cL_law 674 = .ok (.iload 17, 2) := by decide +kernel
theorem dL_law_676 : decode cL_law 676 = .ok (.iaload, 1) := by decide +kernel
theorem dL_law_677 : decode cL_law 677 = .ok (.aload_n 2, 1) := by decide +kernel
theorem dL_law_678 : decode cL_law 678 = .ok (.iload 17, 2) := by decide +kernel
theorem dL_law_680 : decode cL_law 680 = .ok (.iconst 1, 1) := by decide +kernel
theorem dL_law_681 : decode cL_law 681 = .ok (.iadd, 1) := by decide +kernel
theorem dL_law_682 : decode cL_law 682 = .ok (.iaload, 1) := by decide +kernel
theorem dL_law_683 : decode cL_law 683 = .ok (.aload_n 2, 1) := by decide +kernel
theorem dL_law_684 : decode cL_law 684 = .ok (.iload 17, 2) := by decide +kernel
theorem dL_law_686 : decode cL_law 686 = .ok (.iaload, 1) := by decide +kernel
theorem dL_law_687 : decode cL_law 687 = .ok (.iconst 4, 1) := by decide +kernel
theorem dL_law_688 : decode cL_law 688 = .ok (.if_icmp .ne 7, 3) := by decide +kernel
theorem dL_law_691 : decode cL_law 691 = .ok (.iconst 0, 1) := by decide +kernel
theorem dL_law_692 : decode cL_law 692 = .ok (.goto 5, 3) := by decide +kernel
theorem dL_law_695 : decode cL_law 695 = .ok (.iload 24, 2) := by decide +kernel
theorem dL_law_697 : decode cL_law 697 = .ok (.iadd, 1) := by decide +kernel
theorem dL_law_698 : decode cL_law 698 = .ok (.invokestatic 27, 3) := by decide +kernel
theorem dL_law_701 : decode cL_law 701 = .ok (.iload 22, 2) := by decide +kernel
theorem dL_law_703 : decode cL_law 703 = .ok (.if_icmp .ne 8, 3) := by decide +kernel
theorem dL_law_706 : decode cL_law 706 = .ok (.iload 24, 2) := by decide +kernel
theorem dL_law_708 : decode cL_law 708 = .ok (.goto 5, 3) := by decide +kernel
theorem dL_law_711 : decode cL_law 711 = .ok (.iload 23, 2) := by decide +kernel
theorem dL_law_713 : decode cL_law 713 = .ok (.istore 23, 2) := by decide +kernel
theorem dL_law_715 : decode cL_law 715 = .ok (.iinc 24 (-1), 3) := by decide +kernel
theorem dL_law_718 : decode cL_law 718 = .ok (.goto (-50), 3) := by decide +kernel
theorem dL_law_721 : decode cL_law 721 = .ok (.aload_n 1, 1) := by decide +kernel
theorem dL_law_722 : decode cL_law 722 = .ok (.iload 16, 2) := by decide +kernel
theorem dL_law_724 : decode cL_law 724 = .ok (.iload 22, 2) := by decide +kernel
theorem dL_law_726 : decode cL_law 726 = .ok (.invokevirtual 89, 3) := by decide +kernel
theorem dL_law_729 : decode cL_law 729 = .ok (.iload 23, 2) := by decide +kernel
theorem dL_law_731 : decode cL_law 731 = .ok (.if_icmp .eq 5, 3) := by decide +kernel
theorem dL_law_734 : decode cL_law 734 = .ok (.iconst 0, 1) := by decide +kernel
theorem dL_law_735 : decode cL_law 735 = .ok (.ireturn, 1) := by decide +kernel
theorem dL_law_736 : decode cL_law 736 = .ok (.iinc 16 1, 3) := by decide +kernel
theorem dL_law_739 : decode cL_law 739 = .ok (.goto (-505), 3) := by decide +kernel
theorem dL_law_742 : decode cL_law 742 = .ok (.aload_n 1, 1) := by decide +kernel
theorem dL_law_743 : decode cL_law 743 = .ok (.invokevirtual 92, 3) := by decide +kernel
theorem dL_law_746 : decode cL_law 746 = .ok (.aload_n 2, 1) := by decide +kernel
theorem dL_law_747 : decode cL_law 747 = .ok (.invokestatic 95, 3) := by decide +kernel
theorem dL_law_750 : decode cL_law 750 = .ok (.if_icmp .ne 78, 3) := by decide +kernel
theorem dL_law_753 : decode cL_law 753 = .ok (.aload_n 1, 1) := by decide +kernel
theorem dL_law_754 : decode cL_law 754 = .ok (.iconst 0, 1) := by decide +kernel
theorem dL_law_755 : decode cL_law 755 = .ok (.invokevirtual 98, 3) := by decide +kernel
theorem dL_law_758 : decode cL_law 758 = .ok (.iload 9, 2) := by decide +kernel
theorem dL_law_760 : decode cL_law 760 = .ok (.if_icmp .ne 68, 3) := by decide +kernel
theorem dL_law_763 : decode cL_law 763 = .ok (.aload_n 1, 1) := by decide +kernel
theorem dL_law_764 : decode cL_law 764 = .ok (.iconst 1, 1) := by decide +kernel
theorem dL_law_765 : decode cL_law 765 = .ok (.invokevirtual 98, 3) := by decide +kernel
theorem dL_law_768 : decode cL_law 768 = .ok (.aload_n 2, 1) := by decide +kernel
theorem dL_law_769 : decode cL_law 769 = .ok (.iconst 1, 1) := by decide +kernel
theorem dL_law_770 : decode cL_law 770 = .ok (.iaload, 1) := by decide +kernel
theorem dL_law_771 : decode cL_law 771 = .ok (.if_icmp .ne 57, 3) := by decide +kernel
theorem dL_law_774 : decode cL_law 774 = .ok (.aload_n 1, 1) := by decide +kernel
theorem dL_law_775 : decode cL_law 775 = .ok (.iconst 2, 1) := by decide +kernel
theorem dL_law_776 : decode cL_law 776 = .ok (.invokevirtual 98, 3) := by decide +kernel
theorem dL_law_779 : decode cL_law 779 = .ok (.aload_n 2, 1) := by decide +kernel
theorem dL_law_780 : decode cL_law 780 = .ok (.iconst 2, 1) := by decide +kernel
theorem dL_law_781 : decode cL_law 781 = .ok (.iaload, 1) := by decide +kernel
theorem dL_law_782 : decode cL_law 782 = .ok (.if_icmp .ne 46, 3) := by decide +kernel
theorem dL_law_785 : decode cL_law 785 = .ok (.aload_n 1, 1) := by decide +kernel
theorem dL_law_786 : decode cL_law 786 = .ok (.iconst 3, 1) := by decide +kernel
theorem dL_law_787 : decode cL_law 787 = .ok (.invokevirtual 98, 3) := by decide +kernel
theorem dL_law_790 : decode cL_law 790 = .ok (.aload_n 2, 1) := by decide +kernel
theorem dL_law_791 : decode cL_law 791 = .ok (.invokestatic 101, 3) := by decide +kernel
theorem dL_law_794 : decode cL_law 794 = .ok (.if_icmp .ne 34, 3) := by decide +kernel
theorem dL_law_797 : decode cL_law 797 = .ok (.aload_n 1, 1) := by decide +kernel
theorem dL_law_798 : decode cL_law 798 = .ok (.iconst 4, 1) := by decide +kernel
theorem dL_law_799 : decode cL_law 799 = .ok (.invokevirtual 98, 3) := by decide +kernel
theorem dL_law_802 : decode cL_law 802 = .ok (.iload 15, 2) := by decide +kernel
theorem dL_law_804 : decode cL_law 804 = .ok (.if_icmp .ne 24, 3) := by decide +kernel
theorem dL_law_807 : decode cL_law 807 = .ok (.aload_n 1, 1) := by decide +kernel
theorem dL_law_808 : decode cL_law 808 = .ok (.iconst 5, 1) := by decide +kernel
theorem dL_law_809 : decode cL_law 809 = .ok (.invokevirtual 98, 3) := by decide +kernel
theorem dL_law_812 : decode cL_law 812 = .ok (.iload 11, 2) := by decide +kernel
theorem dL_law_814 : decode cL_law 814 = .ok (.if_icmp .ne 14, 3) := by decide +kernel
theorem dL_law_817 : decode cL_law 817 = .ok (.aload_n 1, 1) := by decide +kernel
theorem dL_law_818 : decode cL_law 818 = .ok (.bipush 6, 2) := by decide +kernel
theorem dL_law_820 : decode cL_law 820 = .ok (.invokevirtual 98, 3) := by decide +kernel
theorem dL_law_823 : decode cL_law 823 = .ok (.iload 14, 2) := by decide +kernel
theorem dL_law_825 : decode cL_law 825 = .ok (.if_icmp .eq 5, 3) := by decide +kernel
theorem dL_law_828 : decode cL_law 828 = .ok (.iconst 0, 1) := by decide +kernel
theorem dL_law_829 : decode cL_law 829 = .ok (.ireturn, 1) := by decide +kernel
theorem dL_law_830 : decode cL_law 830 = .ok (.iload 12, 2) := by decide +kernel
theorem dL_law_832 : decode cL_law 832 = .ok (.bipush 6, 2) := by decide +kernel
theorem dL_law_834 : decode cL_law 834 = .ok (.irem, 1) := by decide +kernel
theorem dL_law_835 : decode cL_law 835 = .ok (.iconst 5, 1) := by decide +kernel
theorem dL_law_836 : decode cL_law 836 = .ok (.if_icmp .ne 182, 3) := by decide +kernel
theorem dL_law_839 : decode cL_law 839 = .ok (.iconst 1, 1) := by decide +kernel
theorem dL_law_840 : decode cL_law 840 = .ok (.iload 13, 2) := by decide +kernel
theorem dL_law_842 : decode cL_law 842 = .ok (.sipush 512, 3) := by decide +kernel
theorem dL_law_845 : decode cL_law 845 = .ok (.idiv, 1) := by decide +kernel
theorem dL_law_846 : decode cL_law 846 = .ok (.bipush 60, 2) := by decide +kernel
theorem dL_law_848 : decode cL_law 848 = .ok (.irem, 1) := by decide +kernel
theorem dL_law_849 : decode cL_law 849 = .ok (.iadd, 1) := by decide +kernel
theorem dL_law_850 : decode cL_law 850 = .ok (.istore 16, 2) := by decide +kernel
theorem dL_law_852 : decode cL_law 852 = .ok (.aload_n 0, 1) := by decide +kernel
theorem dL_law_853 : decode cL_law 853 = .ok (.iload 8, 2) := by decide +kernel
theorem dL_law_855 : decode cL_law 855 = .ok (.bipush 24, 2) := by decide +kernel
theorem dL_law_857 : decode cL_law 857 = .ok (.iadd, 1) := by decide +kernel
theorem dL_law_858 : decode cL_law 858 = .ok (.iload 12, 2) := by decide +kernel
theorem dL_law_860 : decode cL_law 860 = .ok (.bipush 6, 2) := by decide +kernel
theorem dL_law_862 : decode cL_law 862 = .ok (.idiv, 1) := by decide +kernel
theorem dL_law_863 : decode cL_law 863 = .ok (.iadd, 1) := by decide +kernel
theorem dL_law_864 : decode cL_law 864 = .ok (.invokestatic 55, 3) := by decide +kernel
theorem dL_law_867 : decode cL_law 867 = .ok (.istore 17, 2) := by decide +kernel
theorem dL_law_869 : decode cL_law 869 = .ok (.iload 17, 2) := by decide +kernel
theorem dL_law_871 : decode cL_law 871 = .ok (.i2l, 1) := by decide +kernel
theorem dL_law_872 : decode cL_law 872 = .ok (.lstore 18, 2) := by decide +kernel
theorem dL_law_874 : decode cL_law 874 = .ok (.iconst 0, 1) := by decide +kernel
theorem dL_law_875 : decode cL_law 875 = .ok (.istore 20, 2) := by decide +kernel
theorem dL_law_877 : decode cL_law 877 = .ok (.aload_n 2, 1) := by decide +kernel
theorem dL_law_878 : decode cL_law 878 = .ok (.aload_n 3, 1) := by decide +kernel
theorem dL_law_879 : decode cL_law 879 = .ok (.invokestatic 104, 3) := by decide +kernel
theorem dL_law_882 : decode cL_law 882 = .ok (.iconst 0, 1) := by decide +kernel
theorem dL_law_883 : decode cL_law 883 = .ok (.istore 21, 2) := by decide +kernel
end
section
theorem dL_law_885 : decode cL_law 885 = .ok (.iload 21, 2) := by decide +kernel
theorem dL_law_887 : decode cL_law 887 = .ok (.iload 16, 2) := by decide +kernel
theorem dL_law_889 : decode cL_law 889 = .ok (.if_icmp .ge 72, 3) := by decide +kernel
theorem dL_law_892 : decode cL_law 892 = .ok (.ldc2_w 108, 3) := by decide +kernel
theorem dL_law_895 : decode cL_law 895 = .ok (.lload 18, 2) := by decide +kernel
theorem dL_law_897 : decode cL_law 897 = .ok (.lmul, 1) := by decide +kernel
theorem dL_law_898 : decode cL_law 898 = .ok (.ldc2_w 110, 3) := by decide +kernel
theorem dL_law_901 : decode cL_law 901 = .ok (.ladd, 1) := by decide +kernel
theorem dL_law_902 : decode cL_law 902 = .ok (.ldc2_w 112, 3) := by decide +kernel
theorem dL_law_905 : decode cL_law 905 = .ok (.lrem, 1) := by decide +kernel
theorem dL_law_906 : decode cL_law 906 = .ok (.lstore 18, 2) := by decide +kernel
theorem dL_law_908 : decode cL_law 908 = .ok (.lload 18, 2) := by decide +kernel
theorem dL_law_910 : decode cL_law 910 = .ok (.ldc2_w 114, 3) := by decide +kernel
theorem dL_law_913 : decode cL_law 913 = .ok (.ldiv, 1) := by decide +kernel
theorem dL_law_914 : decode cL_law 914 = .ok (.iload 9, 2) := by decide +kernel
theorem dL_law_916 : decode cL_law 916 = .ok (.i2l, 1) := by decide +kernel
theorem dL_law_917 : decode cL_law 917 = .ok (.lrem, 1) := by decide +kernel
theorem dL_law_918 : decode cL_law 918 = .ok (.l2i, 1) := by decide +kernel
theorem dL_law_919 : decode cL_law 919 = .ok (.istore 22, 2) := by decide +kernel
theorem dL_law_921 : decode cL_law 921 = .ok (.aload_n 2, 1) := by decide +kernel
theorem dL_law_922 : decode cL_law 922 = .ok (.iload 22, 2) := by decide +kernel
theorem dL_law_924 : decode cL_law 924 = .ok (.invokestatic 37, 3) := by decide +kernel
theorem dL_law_927 : decode cL_law 927 = .ok (.ifCond .eq 12, 3) := by decide +kernel
theorem dL_law_930 : decode cL_law 930 = .ok (.aload_n 2, 1) := by decide +kernel
theorem dL_law_931 : decode cL_law 931 = .ok (.iload 22, 2) := by decide +kernel
theorem dL_law_933 : decode cL_law 933 = .ok (.invokestatic 44, 3) := by decide +kernel
theorem dL_law_936 : decode cL_law 936 = .ok (.goto 4, 3) := by decide +kernel
theorem dL_law_939 : decode cL_law 939 = .ok (.iconst 0, 1) := by decide +kernel
theorem dL_law_940 : decode cL_law 940 = .ok (.istore 23, 2) := by decide +kernel
theorem dL_law_942 : decode cL_law 942 = .ok (.iload 20, 2) := by decide +kernel
theorem dL_law_944 : decode cL_law 944 = .ok (.aload_n 2, 1) := by decide +kernel
theorem dL_law_945 : decode cL_law 945 = .ok (.invokestatic 95, 3) := by decide +kernel
theorem dL_law_948 : decode cL_law 948 = .ok (.iadd, 1) := by decide +kernel
theorem dL_law_949 : decode cL_law 949 = .ok (.istore 20, 2) := by decide +kernel
theorem dL_law_951 : decode cL_law 951 = .ok (.aload_n 2, 1) := by decide +kernel
theorem dL_law_952 : decode cL_law 952 = .ok (.invokestatic 50, 3) := by decide +kernel
theorem dL_law_955 : decode cL_law 955 = .ok (.iinc 21 1, 3) := by decide +kernel
theorem dL_law_958 : decode cL_law 958 = .ok (.goto (-73), 3) := by decide +kernel
theorem dL_law_961 : decode cL_law 961 = .ok (.aload_n 2, 1) := by decide +kernel
theorem dL_law_962 : decode cL_law 962 = .ok (.invokestatic 101, 3) := by decide +kernel
theorem dL_law_965 : decode cL_law 965 = .ok (.istore 21, 2) := by decide +kernel
theorem dL_law_967 : decode cL_law 967 = .ok (.aload_n 3, 1) := by decide +kernel
theorem dL_law_968 : decode cL_law 968 = .ok (.aload_n 2, 1) := by decide +kernel
theorem dL_law_969 : decode cL_law 969 = .ok (.invokestatic 104, 3) := by decide +kernel
theorem dL_law_972 : decode cL_law 972 = .ok (.aload_n 1, 1) := by decide +kernel
theorem dL_law_973 : decode cL_law 973 = .ok (.iload 16, 2) := by decide +kernel
theorem dL_law_975 : decode cL_law 975 = .ok (.iload 17, 2) := by decide +kernel
theorem dL_law_977 : decode cL_law 977 = .ok (.iconst 0, 1) := by decide +kernel
theorem dL_law_978 : decode cL_law 978 = .ok (.invokevirtual 116, 3) := by decide +kernel
theorem dL_law_981 : decode cL_law 981 = .ok (.iload 20, 2) := by decide +kernel
theorem dL_law_983 : decode cL_law 983 = .ok (.if_icmp .ne 33, 3) := by decide +kernel
theorem dL_law_986 : decode cL_law 986 = .ok (.aload_n 1, 1) := by decide +kernel
theorem dL_law_987 : decode cL_law 987 = .ok (.iload 16, 2) := by decide +kernel
theorem dL_law_989 : decode cL_law 989 = .ok (.iload 17, 2) := by decide +kernel
theorem dL_law_991 : decode cL_law 991 = .ok (.iconst 1, 1) := by decide +kernel
theorem dL_law_992 : decode cL_law 992 = .ok (.invokevirtual 116, 3) := by decide +kernel
theorem dL_law_995 : decode cL_law 995 = .ok (.iload 21, 2) := by decide +kernel
theorem dL_law_997 : decode cL_law 997 = .ok (.if_icmp .ne 19, 3) := by decide +kernel
theorem dL_law_1000 : decode cL_law 1000 = .ok (.aload_n 1, 1) := by decide +kernel
theorem dL_law_1001 : decode cL_law 1001 = .ok (.iload 16, 2) := by decide +kernel
theorem dL_law_1003 : decode cL_law 1003 = .ok (.iload 17, 2) := by decide +kernel
theorem dL_law_1005 : decode cL_law 1005 = .ok (.iconst 2, 1) := by decide +kernel
theorem dL_law_1006 : decode cL_law 1006 = .ok (.invokevirtual 116, 3) := by decide +kernel
theorem dL_law_1009 : decode cL_law 1009 = .ok (.i2l, 1) := by decide +kernel
theorem dL_law_1010 : decode cL_law 1010 = .ok (.lload 18, 2) := by decide +kernel
theorem dL_law_1012 : decode cL_law 1012 = .ok (.lcmp, 1) := by decide +kernel
theorem dL_law_1013 : decode cL_law 1013 = .ok (.ifCond .eq 5, 3) := by decide +kernel
theorem dL_law_1016 : decode cL_law 1016 = .ok (.iconst 0, 1) := by decide +kernel
theorem dL_law_1017 : decode cL_law 1017 = .ok (.ireturn, 1) := by decide +kernel
theorem dL_law_1018 : decode cL_law 1018 = .ok (.iinc 12 1, 3) := by decide +kernel
theorem dL_law_1021 : decode cL_law 1021 = .ok (.goto (-924), 3) := by decide +kernel
theorem dL_law_1024 : decode cL_law 1024 = .ok (.aload_n 1, 1) := by decide +kernel
theorem dL_law_1025 : decode cL_law 1025 = .ok (.iload 9, 2) := by decide +kernel
theorem dL_law_1027 : decode cL_law 1027 = .ok (.iconst 0, 1) := by decide +kernel
theorem dL_law_1028 : decode cL_law 1028 = .ok (.invokevirtual 71, 3) := by decide +kernel
theorem dL_law_1031 : decode cL_law 1031 = .ok (.bipush (-101), 2) := by decide +kernel
theorem dL_law_1033 : decode cL_law 1033 = .ok (.if_icmp .ne 235, 3) := by decide +kernel
theorem dL_law_1036 : decode cL_law 1036 = .ok (.aload_n 1, 1) := by decide +kernel
theorem dL_law_1037 : decode cL_law 1037 = .ok (.iconst 0, 1) := by decide +kernel
theorem dL_law_1038 : decode cL_law 1038 = .ok (.bipush 6, 2) := by decide +kernel
theorem dL_law_1040 : decode cL_law 1040 = .ok (.invokevirtual 71, 3) := by decide +kernel
theorem dL_law_1043 : decode cL_law 1043 = .ok (.bipush (-102), 2) := by decide +kernel
theorem dL_law_1045 : decode cL_law 1045 = .ok (.if_icmp .ne 223, 3) := by decide +kernel
theorem dL_law_1048 : decode cL_law 1048 = .ok (.aload_n 1, 1) := by decide +kernel
theorem dL_law_1049 : decode cL_law 1049 = .ok (.iload 9, 2) := by decide +kernel
theorem dL_law_1051 : decode cL_law 1051 = .ok (.iconst 0, 1) := by decide +kernel
theorem dL_law_1052 : decode cL_law 1052 = .ok (.invokevirtual 86, 3) := by decide +kernel
theorem dL_law_1055 : decode cL_law 1055 = .ok (.bipush (-101), 2) := by decide +kernel
theorem dL_law_1057 : decode cL_law 1057 = .ok (.if_icmp .ne 211, 3) := by decide +kernel
theorem dL_law_1060 : decode cL_law 1060 = .ok (.aload_n 1, 1) := by decide +kernel
theorem dL_law_1061 : decode cL_law 1061 = .ok (.iconst 0, 1) := by decide +kernel
theorem dL_law_1062 : decode cL_law 1062 = .ok (.iconst 5, 1) := by decide +kernel
theorem dL_law_1063 : decode cL_law 1063 = .ok (.invokevirtual 86, 3) := by decide +kernel
theorem dL_law_1066 : decode cL_law 1066 = .ok (.bipush (-102), 2) := by decide +kernel
theorem dL_law_1068 : decode cL_law 1068 = .ok (.if_icmp .ne 200, 3) := by decide +kernel
theorem dL_law_1071 : decode cL_law 1071 = .ok (.aload_n 1, 1) := by decide +kernel
theorem dL_law_1072 : decode cL_law 1072 = .ok (.iload 9, 2) := by decide +kernel
theorem dL_law_1074 : decode cL_law 1074 = .ok (.invokevirtual 41, 3) := by decide +kernel
theorem dL_law_1077 : decode cL_law 1077 = .ok (.bipush (-101), 2) := by decide +kernel
theorem dL_law_1079 : decode cL_law 1079 = .ok (.if_icmp .ne 189, 3) := by decide +kernel
theorem dL_law_1082 : decode cL_law 1082 = .ok (.aload_n 1, 1) := by decide +kernel
theorem dL_law_1083 : decode cL_law 1083 = .ok (.iload 9, 2) := by decide +kernel
theorem dL_law_1085 : decode cL_law 1085 = .ok (.iconst 0, 1) := by decide +kernel
theorem dL_law_1086 : decode cL_law 1086 = .ok (.invokevirtual 77, 3) := by decide +kernel
theorem dL_law_1089 : decode cL_law 1089 = .ok (.bipush (-101), 2) := by decide +kernel
theorem dL_law_1091 : decode cL_law 1091 = .ok (.if_icmp .ne 177, 3) := by decide +kernel
theorem dL_law_1094 : decode cL_law 1094 = .ok (.aload_n 1, 1) := by decide +kernel
theorem dL_law_1095 : decode cL_law 1095 = .ok (.iconst 0, 1) := by decide +kernel
theorem dL_law_1096 : decode cL_law 1096 = .ok (.aload_n 2, 1) := by decide +kernel
theorem dL_law_1097 : decode cL_law 1097 = .ok (.iconst 1, 1) := by decide +kernel
theorem dL_law_1098 : decode cL_law 1098 = .ok (.iaload, 1) := by decide +kernel
theorem dL_law_1099 : decode cL_law 1099 = .ok (.iconst 1, 1) := by decide +kernel
theorem dL_law_1100 : decode cL_law 1100 = .ok (.iadd, 1) := by decide +kernel
theorem dL_law_1101 : decode cL_law 1101 = .ok (.invokevirtual 77, 3) := by decide +kernel
theorem dL_law_1104 : decode cL_law 1104 = .ok (.bipush (-101), 2) := by decide +kernel
theorem dL_law_1106 : decode cL_law 1106 = .ok (.if_icmp .ne 162, 3) := by decide +kernel
theorem dL_law_1109 : decode cL_law 1109 = .ok (.aload_n 1, 1) := by decide +kernel
theorem dL_law_1110 : decode cL_law 1110 = .ok (.iconst 0, 1) := by decide +kernel
theorem dL_law_1111 : decode cL_law 1111 = .ok (.iconst (-1), 1) := by decide +kernel
theorem dL_law_1112 : decode cL_law 1112 = .ok (.invokevirtual 77, 3) := by decide +kernel
theorem dL_law_1115 : decode cL_law 1115 = .ok (.bipush (-101), 2) := by decide +kernel
theorem dL_law_1117 : decode cL_law 1117 = .ok (.if_icmp .ne 151, 3) := by decide +kernel
theorem dL_law_1120 : decode cL_law 1120 = .ok (.aload_n 1, 1) := by decide +kernel
theorem dL_law_1121 : decode cL_law 1121 = .ok (.iconst 0, 1) := by decide +kernel
theorem dL_law_1122 : decode cL_law 1122 = .ok (.aload_n 2, 1) := by decide +kernel
theorem dL_law_1123 : decode cL_law 1123 = .ok (.iconst 1, 1) := by decide +kernel
theorem dL_law_1124 : decode cL_law 1124 = .ok (.iaload, 1) := by decide +kernel
theorem dL_law_1125 : decode cL_law 1125 = .ok (.iconst 1, 1) := by decide +kernel
theorem dL_law_1126 : decode cL_law 1126 = .ok (.iadd, 1) := by decide +kernel
theorem dL_law_1127 : decode cL_law 1127 = .ok (.invokevirtual 83, 3) := by decide +kernel
theorem dL_law_1130 : decode cL_law 1130 = .ok (.bipush (-101), 2) := by decide +kernel
theorem dL_law_1132 : decode cL_law 1132 = .ok (.if_icmp .ne 136, 3) := by decide +kernel
theorem dL_law_1135 : decode cL_law 1135 = .ok (.aload_n 1, 1) := by decide +kernel
theorem dL_law_1136 : decode cL_law 1136 = .ok (.iconst 0, 1) := by decide +kernel
theorem dL_law_1137 : decode cL_law 1137 = .ok (.iconst 0, 1) := by decide +kernel
theorem dL_law_1138 : decode cL_law 1138 = .ok (.invokevirtual 68, 3) := by decide +kernel
theorem dL_law_1141 : decode cL_law 1141 = .ok (.bipush (-102), 2) := by decide +kernel
theorem dL_law_1143 : decode cL_law 1143 = .ok (.if_icmp .ne 125, 3) := by decide +kernel
theorem dL_law_1146 : decode cL_law 1146 = .ok (.aload_n 1, 1) := by decide +kernel
theorem dL_law_1147 : decode cL_law 1147 = .ok (.bipush 10, 2) := by decide +kernel
theorem dL_law_1149 : decode cL_law 1149 = .ok (.iconst 0, 1) := by decide +kernel
theorem dL_law_1150 : decode cL_law 1150 = .ok (.invokevirtual 68, 3) := by decide +kernel
theorem dL_law_1153 : decode cL_law 1153 = .ok (.bipush (-102), 2) := by decide +kernel
theorem dL_law_1155 : decode cL_law 1155 = .ok (.if_icmp .ne 113, 3) := by decide +kernel
theorem dL_law_1158 : decode cL_law 1158 = .ok (.aload_n 1, 1) := by decide +kernel
theorem dL_law_1159 : decode cL_law 1159 = .ok (.iconst 1, 1) := by decide +kernel
theorem dL_law_1160 : decode cL_law 1160 = .ok (.bipush 100, 2) := by decide +kernel
theorem dL_law_1162 : decode cL_law 1162 = .ok (.invokevirtual 68, 3) := by decide +kernel
theorem dL_law_1165 : decode cL_law 1165 = .ok (.bipush (-102), 2) := by decide +kernel
theorem dL_law_1167 : decode cL_law 1167 = .ok (.if_icmp .ne 101, 3) := by decide +kernel
theorem dL_law_1170 : decode cL_law 1170 = .ok (.aload_n 1, 1) := by decide +kernel
theorem dL_law_1171 : decode cL_law 1171 = .ok (.iconst 1, 1) := by decide +kernel
theorem dL_law_1172 : decode cL_law 1172 = .ok (.iconst (-1), 1) := by decide +kernel
theorem dL_law_1173 : decode cL_law 1173 = .ok (.invokevirtual 68, 3) := by decide +kernel
theorem dL_law_1176 : decode cL_law 1176 = .ok (.bipush (-102), 2) := by decide +kernel
theorem dL_law_1178 : decode cL_law 1178 = .ok (.if_icmp .ne 90, 3) := by decide +kernel
theorem dL_law_1181 : decode cL_law 1181 = .ok (.aload_n 1, 1) := by decide +kernel
theorem dL_law_1182 : decode cL_law 1182 = .ok (.iload 9, 2) := by decide +kernel
theorem dL_law_1184 : decode cL_law 1184 = .ok (.iconst 0, 1) := by decide +kernel
theorem dL_law_1185 : decode cL_law 1185 = .ok (.invokevirtual 89, 3) := by decide +kernel
theorem dL_law_1188 : decode cL_law 1188 = .ok (.bipush (-101), 2) := by decide +kernel
theorem dL_law_1190 : decode cL_law 1190 = .ok (.if_icmp .ne 78, 3) := by decide +kernel
theorem dL_law_1193 : decode cL_law 1193 = .ok (.aload_n 1, 1) := by decide +kernel
theorem dL_law_1194 : decode cL_law 1194 = .ok (.iconst 0, 1) := by decide +kernel
theorem dL_law_1195 : decode cL_law 1195 = .ok (.iconst (-1), 1) := by decide +kernel
theorem dL_law_1196 : decode cL_law 1196 = .ok (.invokevirtual 89, 3) := by decide +kernel
theorem dL_law_1199 : decode cL_law 1199 = .ok (.iconst (-1), 1) := by decide +kernel
theorem dL_law_1200 : decode cL_law 1200 = .ok (.if_icmp .ne 68, 3) := by decide +kernel
theorem dL_law_1203 : decode cL_law 1203 = .ok (.aload_n 1, 1) := by decide +kernel
theorem dL_law_1204 : decode cL_law 1204 = .ok (.iconst 0, 1) := by decide +kernel
theorem dL_law_1205 : decode cL_law 1205 = .ok (.iconst 1, 1) := by decide +kernel
theorem dL_law_1206 : decode cL_law 1206 = .ok (.iconst 0, 1) := by decide +kernel
theorem dL_law_1207 : decode cL_law 1207 = .ok (.invokevirtual 116, 3) := by decide +kernel
theorem dL_law_1210 : decode cL_law 1210 = .ok (.bipush (-102), 2) := by decide +kernel
theorem dL_law_1212 : decode cL_law 1212 = .ok (.if_icmp .ne 56, 3) := by decide +kernel
theorem dL_law_1215 : decode cL_law 1215 = .ok (.aload_n 1, 1) := by decide +kernel
theorem dL_law_1216 : decode cL_law 1216 = .ok (.bipush 61, 2) := by decide +kernel
theorem dL_law_1218 : decode cL_law 1218 = .ok (.iconst 1, 1) := by decide +kernel
theorem dL_law_1219 : decode cL_law 1219 = .ok (.iconst 0, 1) := by decide +kernel
theorem dL_law_1220 : decode cL_law 1220 = .ok (.invokevirtual 116, 3) := by decide +kernel
theorem dL_law_1223 : decode cL_law 1223 = .ok (.bipush (-102), 2) := by decide +kernel
theorem dL_law_1225 : decode cL_law 1225 = .ok (.if_icmp .ne 43, 3) := by decide +kernel
theorem dL_law_1228 : decode cL_law 1228 = .ok (.aload_n 1, 1) := by decide +kernel
theorem dL_law_1229 : decode cL_law 1229 = .ok (.iconst 1, 1) := by decide +kernel
theorem dL_law_1230 : decode cL_law 1230 = .ok (.iconst (-1), 1) := by decide +kernel
theorem dL_law_1231 : decode cL_law 1231 = .ok (.iconst 0, 1) := by decide +kernel
theorem dL_law_1232 : decode cL_law 1232 = .ok (.invokevirtual 116, 3) := by decide +kernel
theorem dL_law_1235 : decode cL_law 1235 = .ok (.bipush (-102), 2) := by decide +kernel
theorem dL_law_1237 : decode cL_law 1237 = .ok (.if_icmp .ne 31, 3) := by decide +kernel
theorem dL_law_1240 : decode cL_law 1240 = .ok (.aload_n 1, 1) := by decide +kernel
theorem dL_law_1241 : decode cL_law 1241 = .ok (.iconst 1, 1) := by decide +kernel
theorem dL_law_1242 : decode cL_law 1242 = .ok (.iconst 1, 1) := by decide +kernel
theorem dL_law_1243 : decode cL_law 1243 = .ok (.iconst 3, 1) := by decide +kernel
theorem dL_law_1244 : decode cL_law 1244 = .ok (.invokevirtual 116, 3) := by decide +kernel
theorem dL_law_1247 : decode cL_law 1247 = .ok (.bipush (-102), 2) := by decide +kernel
theorem dL_law_1249 : decode cL_law 1249 = .ok (.if_icmp .ne 19, 3) := by decide +kernel
theorem dL_law_1252 : decode cL_law 1252 = .ok (.aload_n 1, 1) := by decide +kernel
theorem dL_law_1253 : decode cL_law 1253 = .ok (.invokevirtual 61, 3) := by decide +kernel
theorem dL_law_1256 : decode cL_law 1256 = .ok (.iload 10, 2) := by decide +kernel
theorem dL_law_1258 : decode cL_law 1258 = .ok (.if_icmp .ne 10, 3) := by decide +kernel
theorem dL_law_1261 : decode cL_law 1261 = .ok (.aload_n 1, 1) := by decide +kernel
theorem dL_law_1262 : decode cL_law 1262 = .ok (.invokevirtual 61, 3) := by decide +kernel
theorem dL_law_1265 : decode cL_law 1265 = .ok (.ifCond .eq 5, 3) := by decide +kernel
theorem dL_law_1268 : decode cL_law 1268 = .ok (.iconst 0, 1) := by decide +kernel
theorem dL_law_1269 : decode cL_law 1269 = .ok (.ireturn, 1) := by decide +kernel
theorem dL_law_1270 : decode cL_law 1270 = .ok (.iinc 7 1, 3) := by decide +kernel
theorem dL_law_1273 : decode cL_law 1273 = .ok (.goto (-1234), 3) := by decide +kernel
theorem dL_law_1276 : decode cL_law 1276 = .ok (.aload_n 2, 1) := by decide +kernel
theorem dL_law_1277 : decode cL_law 1277 = .ok (.iconst 1, 1) := by decide +kernel
theorem dL_law_1278 : decode cL_law 1278 = .ok (.iaload, 1) := by decide +kernel
theorem dL_law_1279 : decode cL_law 1279 = .ok (.istore 7, 2) := by decide +kernel
theorem dL_law_1281 : decode cL_law 1281 = .ok (.iload 7, 2) := by decide +kernel
theorem dL_law_1283 : decode cL_law 1283 = .ok (.bipush 30, 2) := by decide +kernel
theorem dL_law_1285 : decode cL_law 1285 = .ok (.if_icmp .ge 22, 3) := by decide +kernel
theorem dL_law_1288 : decode cL_law 1288 = .ok (.aload_n 1, 1) := by decide +kernel
theorem dL_law_1289 : decode cL_law 1289 = .ok (.invokevirtual 47, 3) := by decide +kernel
theorem dL_law_1292 : decode cL_law 1292 = .ok (.iload 7, 2) := by decide +kernel
theorem dL_law_1294 : decode cL_law 1294 = .ok (.iconst 1, 1) := by decide +kernel
theorem dL_law_1295 : decode cL_law 1295 = .ok (.iadd, 1) := by decide +kernel
theorem dL_law_1296 : decode cL_law 1296 = .ok (.if_icmp .eq 5, 3) := by decide +kernel
theorem dL_law_1299 : decode cL_law 1299 = .ok (.iconst 0, 1) := by decide +kernel
theorem dL_law_1300 : decode cL_law 1300 = .ok (.ireturn, 1) := by decide +kernel
theorem dL_law_1301 : decode cL_law 1301 = .ok (.iinc 7 1, 3) := by decide +kernel
theorem dL_law_1304 : decode cL_law 1304 = .ok (.goto (-23), 3) := by decide +kernel
theorem dL_law_1307 : decode cL_law 1307 = .ok (.aload_n 1, 1) := by decide +kernel
theorem dL_law_1308 : decode cL_law 1308 = .ok (.invokevirtual 47, 3) := by decide +kernel
theorem dL_law_1311 : decode cL_law 1311 = .ok (.bipush (-104), 2) := by decide +kernel
theorem dL_law_1313 : decode cL_law 1313 = .ok (.if_icmp .ne 17, 3) := by decide +kernel
theorem dL_law_1316 : decode cL_law 1316 = .ok (.aload_n 1, 1) := by decide +kernel
theorem dL_law_1317 : decode cL_law 1317 = .ok (.iconst 1, 1) := by decide +kernel
theorem dL_law_1318 : decode cL_law 1318 = .ok (.invokevirtual 98, 3) := by decide +kernel
theorem dL_law_1321 : decode cL_law 1321 = .ok (.bipush 30, 2) := by decide +kernel
theorem dL_law_1323 : decode cL_law 1323 = .ok (.if_icmp .ne 7, 3) := by decide +kernel
theorem dL_law_1326 : decode cL_law 1326 = .ok (.iconst 1, 1) := by decide +kernel
theorem dL_law_1327 : decode cL_law 1327 = .ok (.goto 4, 3) := by decide +kernel
theorem dL_law_1330 : decode cL_law 1330 = .ok (.iconst 0, 1) := by decide +kernel
theorem dL_law_1331 : decode cL_law 1331 = .ok (.ireturn, 1) := by decide +kernel
end
section
/-! ===== the words of every method: its own code, and gG ===== -/
abbrev mw (y : MethodName) (b : ByteArray) (n : Nat) (r : Option FieldType) : List Cond := Cond.code y b n r :: gG
theorem gG_good {ws : List Cond} (h : ∀ w ∈ ws, w ∈ gG) : GoodIn gG ws := fun w hw => ⟨h w hw, good_of_word (gG_ok w (h w hw))⟩
/-- what the tables say of a method of an object -/
def vfacts (C : String) (y : MethodName) (b : ByteArray) (n : Nat) (r : Option FieldType) (k : Nat) : Prop :=
  (y.cls = C ∧ y.cls ≠ "java/lang/invoke/MethodHandle" ∧ y.cls ≠ "java/lang/invoke/VarHandle" ∧ (parseMethodDescriptor y.desc).map (fun d => d.parameters.length) = some k) ∧ Cond.instanceMethod y ∈ gG ∧ Cond.selects C y y ∈ gG ∧ Cond.initialized C ∈ gG ∧ Cond.code y b n r ∈ gG
/-- what the tables say of a static method -/
def sfacts (C : String) (y : MethodName) (b : ByteArray) (n : Nat) (r : Option FieldType) (k : Nat) : Prop :=
  (y.cls = C ∧ y.cls ≠ "java/lang/invoke/MethodHandle" ∧ y.cls ≠ "java/lang/invoke/VarHandle" ∧ (parseMethodDescriptor y.desc).map (fun d => d.parameters.length) = some k) ∧ Cond.static y ∈ gG ∧ Cond.initialized C ∈ gG ∧ Cond.code y b n r ∈ gG
/-- what the tables say of a constructor -/
def ifacts (C : String) (y : MethodName) (b : ByteArray) (n : Nat) (k : Nat) : Prop :=
  (y.cls = C ∧ y.cls ≠ "java/lang/invoke/MethodHandle" ∧ y.cls ≠ "java/lang/invoke/VarHandle" ∧ (parseMethodDescriptor y.desc).map (fun d => d.parameters.length) = some k) ∧ y.name = "<init>" ∧ Cond.instanceMethod y ∈ gG ∧ Cond.initialized C ∈ gG ∧ Cond.code y b n none ∈ gG
section CW
variable {R : Room} {s : State} {args : Array Value} {own C : String} {idx : Nat} {y : MethodName} {b : ByteArray} {n k : Nat} {r : Option FieldType} {rm : Room} {mc ms : Nat}
theorem cwV_of (hg : ∀ w ∈ gG, w.before args s = true) (hl : Cond.methodLink own idx y ∈ gG) (hy : vfacts C y b n r k) (hrc : rm.cells = mc) (hrs : rm.slots = ms) (hR : rm.frames + 1 ≤ R.frames ∧ 8 + (n + 11) + rm.locals ≤ R.locals) : CallW R s args own C idx y b n r (mw y b n r) rm mc ms k :=
  cwV k hg (gG_good (fun w hw => by
    rcases List.mem_append.mp hw with h | h
    · simp only [List.mem_cons, List.not_mem_nil, or_false] at h
      rcases h with rfl | rfl | rfl | rfl
      · exact hl
      · exact hy.2.1
      · exact hy.2.2.1
      · exact hy.2.2.2.1
    · rcases List.mem_cons.mp h with rfl | h
      · exact hy.2.2.2.2
      · exact h)) rfl hrc hrs hy.1 hR
theorem cwS_of (hg : ∀ w ∈ gG, w.before args s = true) (hl : Cond.methodLink own idx y ∈ gG) (hy : sfacts C y b n r k) (hrc : rm.cells = mc) (hrs : rm.slots = ms) (hR : rm.frames + 1 ≤ R.frames ∧ 8 + (n + 11) + rm.locals ≤ R.locals) : CallB R s args own idx y b n r (mw y b n r) rm mc ms k ∧ (Cond.static y).before args s = true :=
  ⟨callB_of k hg (gG_good (fun w hw => by
    rcases List.mem_cons.mp hw with rfl | h
    · exact hy.2.2.2
    · exact h)) rfl hrc hrs (by rw [hy.1.1]; exact hg _ hy.2.2.1) (hg _ hl) hy.1.2 hR, hg _ hy.2.1⟩
theorem cwI_of (hg : ∀ w ∈ gG, w.before args s = true) (hl : Cond.methodLink own idx y ∈ gG) (hy : ifacts C y b n k) (hrc : rm.cells = mc) (hrs : rm.slots = ms) (hR : rm.frames + 1 ≤ R.frames ∧ 8 + (n + 11) + rm.locals ≤ R.locals) : CallB R s args own idx y b n none (mw y b n none) rm mc ms k ∧ y.name = "<init>" ∧ (Cond.instanceMethod y).before args s = true :=
  cwI k hg (gG_good (fun w hw => by
    rcases List.mem_cons.mp hw with rfl | h
    · exact hy.2.2.2.2
    · exact h)) rfl hrc hrs (by rw [hy.1.1]; exact hg _ hy.2.2.2.1) (hg _ hl) (hg _ hy.2.2.1) hy.2.1 hy.1.2 hR
end CW
/-! ===== what a state knows of the classes, the nest's links and the string ===== -/
def nestF : List (String × Nat × String × String × String × String) := [(RX2, 112, "BirthStreet$Moment", "today", "I", RX2), (RX2, 103, "BirthStreet$Moment", "births", "I", RX2), (RX2, 139, "BirthStreet$Moment", "debts", "I", RX2), (RX2, 162, "BirthStreet$Moment", "heard", "I", RX2), (RX2, 76, "BirthStreet$Moment", "ages", "LBirthStreet$Row;", RX2), (RX2, 115, "BirthStreet$Moment", "pastAges", "LBirthStreet$Row;", RX2), (RX2, 86, "BirthStreet$Moment", "birthsIn", "LBirthStreet$Row;", RX2), (RX2, 142, "BirthStreet$Moment", "debtAmounts", "LBirthStreet$Row;", RX2), (RX2, 145, "BirthStreet$Moment", "debtNumbers", "LBirthStreet$Row;", RX2)]
/-- D: the classes' numbers and slots; cI, cB: the classes of int[], long[]; aS: the string's address -/
def KP (D : va_G) (cI cB : ClassId) (aS : Nat) (U : State) : Prop :=
  va_K D vwCl [(cI, .int), (cB, .long)] U ∧ (∀ q ∈ nestF, va_Nw (.fieldLinkNest q.1 q.2.1 q.2.2.1 q.2.2.2.1 q.2.2.2.2.1 q.2.2.2.2.2) U) ∧ va_Nw (.methodLinkNest RX2 33 yX0_init RX2) U ∧ vk_R RX2 233 "htmcb" aS U
theorem KP.warm {D : va_G} {cI cB : ClassId} {aS : Nat} {s U : State} (hW : s.WarmedH U.vm) (h : KP D cI cB aS s) : KP D cI cB aS U :=
  ⟨va_K.moved hW.alike h.1, fun q hq => va_Nw.warmF hW (h.2.1 q hq), va_Nw.warmM hW h.2.2.1, vk_R.warm hW h.2.2.2⟩
theorem KP.calling {D : va_G} {cI cB : ClassId} {aS : Nat} {U : State} (g : JFrame) (mk : MethodId) (a : Array Value) (h : KP D cI cB aS U) : KP D cI cB aS (U.calling g mk a) :=
  ⟨va_K.moved (u := U) (U := U.calling g mk a) (Vm.Alike.refl U.vm) h.1, fun q hq => va_Nw.same rfl (u := U) (U := U.calling g mk a) rfl (h.2.1 q hq), va_Nw.same rfl (u := U) (U := U.calling g mk a) rfl h.2.2.1, vk_R.same (u := U) (U := U.calling g mk a) rfl h.2.2.2⟩
/-- a method's start: its arguments, the cells of a world, what the state knows -/
def RP (D : va_G) (cI cB : ClassId) (aS : Nat) (w : va_W) (av : List Value) : Array Value → State → Prop := fun v U => v = av.toArray ∧ va_P D vwCl w U.heap ∧ KP D cI cB aS U
theorem RP.blind {D : va_G} {cI cB : ClassId} {aS : Nat} {w : va_W} {av : List Value} : FrameBlind (RP D cI cB aS w av) := fun a _ g mk q => ⟨q.1, q.2.1, q.2.2.calling g mk a⟩
theorem RP.preS {D : va_G} {cI cB : ClassId} {aS : Nat} {w : va_W} {s : State} {H : Heap} (hK : KP D cI cB aS s) (hP : va_P D vwCl w H) {As : List Value} : PreS s H (RP D cI cB aS w As) As :=
  ⟨RP.blind, fun U hU hW => ⟨rfl, by rw [hU]; exact hP, hK.warm hW⟩⟩
theorem RP.preV {D : va_G} {cI cB : ClassId} {aS : Nat} {w : va_W} {s : State} {H : Heap} (hK : KP D cI cB aS s) (hP : va_P D vwCl w H) {b q0 ci N : Nat} {C : String} {T : u_T} {fs : List Value} (he : w[q0]? = some (b, .inr (ci, fs))) (hc : vwCl[ci]? = some (C, T, N)) {As : List Value} : PreV s H C b (RP D cI cB aS w (.ref b :: As)) As :=
  ⟨RP.blind, va_recv hK.1 hP hc he, fun U hU hW => ⟨rfl, by rw [hU]; exact hP, hK.warm hW⟩⟩
theorem met_of {l : Launch} {y : MethodName} {bts : ByteArray} {n : Nat} {ret : Option FieldType} {rm : Room} {D : va_G} {cI cB : ClassId} {aS : Nat} {w : va_W} {av : List Value} {Qc : Array Value → State → Outcome → State → Prop} {mc ms : Nat} {free : Addr → Prop} (hpl : plainName y.cls = true) (hlen : (lg_sl av).length ≤ n)
    (body : ∀ (p : Program) (e : Env) (s : State) (m : MethodId) (below : List Frame) (meth : Method) (c : Code) (ls : Array Slot), p.tables.exec = Jvm.exec → c.code = bts → meth.sig.returnType = ret → c.maxLocals = n → s.vm.findClass y.cls = some m.cls → (∀ w ∈ gG, w.before av.toArray s = true) → meth.locks = false → (y.name = "<init>" → meth.name = "<init>") → KP D cI cB aS s → va_P D vwCl w s.heap → lv_has ls n (lv_args 0 av) → W p l e rm s m av.toArray below meth c s.heap [] 0 0 (MQ below Qc av.toArray s mc ms free) (F0 m 0 ls [])) :
    Met l y (mw y bts n ret) rm (RP D cI cB aS w av) Qc mc ms free := by
  refine Met.ofW (cc := bts) (maxL := n) (ret := ret) hpl rfl ?_
  intro p e s m args below meth c s₁ B hml hv
  obtain ⟨rfl, hP, hK⟩ := hv
  have hts := atoms_spec (ws := mw y bts n ret) B.pre
  have hl := lv_entry av (n := n) hlen
  rw [lg_entry_eq]
  exact body p e s m below meth c _ B.exec B.bytes B.returns hml (findClass_of_methodNamed B.named) (fun w hw => hts w (List.mem_cons_of_mem _ hw)) B.notSynchronized (fun h => by rw [← h]; exact (name_of_methodNamed B.named B.method).1) hK hP hl
/-! ===== the ends of a reader ===== -/
def bi (P : Prop) [Decidable P] : Int32 := if P then 1 else 0
theorem bi_t {P : Prop} {_ : Decidable P} (h : P) : bi P = 1 := if_pos h
theorem bi_f {P : Prop} {_ : Decidable P} (h : ¬ P) : bi P = 0 := if_neg h
theorem bi_0 {P : Prop} {_ : Decidable P} : bi P = 0 ↔ ¬ P := by
  unfold bi
  by_cases h : P
  · rw [if_pos h]; exact ⟨fun q => absurd q (by decide), fun q => absurd h q⟩
  · rw [if_neg h]; exact ⟨fun _ => h, fun _ => rfl⟩
theorem bi_c {P Q : Prop} {_ : Decidable P} {_ : Decidable Q} (h : P ↔ Q) : bi P = bi Q := by
  by_cases hp : P
  · rw [bi_t hp, bi_t (h.mp hp)]
  · rw [bi_f hp, bi_f (fun q => hp (h.mpr q))]
theorem bi_nar {P : Prop} {_ : Decidable P} : narrow .boolean (.int (bi P)) = .int (bi P) := by
  unfold bi
  split <;> rfl
section ENDS
variable {p : Program} {l : Launch} {e : Env} {R : Room} {s : State} {m : MethodId} {args : Array Value} {below : List Frame} {meth : Method} {c : Code} {cc : ByteArray} {pc : Nat} {ls : Array Slot}
theorem rr_i (hx : p.tables.exec = Jvm.exec) (hb : c.code = cc) (hr : meth.sig.returnType = some .int) (hlocks : meth.locks = false) {v E : Int32} (hdg : decode cc pc = .ok (.ireturn, 1)) (hv : v = E) : W p l e R s m args below meth c s.heap [] 0 0 (MQ below (vp_Si (fun r => r = E)) args s 0 0 (fun _ => False)) (F0 m pc ls [.int v]) :=
  W.iret hx hb hr (fun _ ht _ => ⟨_, rfl, hv, ht⟩) (fun _ h => by cases h) hdg
theorem rr_z (hx : p.tables.exec = Jvm.exec) (hb : c.code = cc) {ty : FieldType} (hr : meth.sig.returnType = some ty) (hlocks : meth.locks = false) {v E : Int32} (hdg : decode cc pc = .ok (.ireturn, 1)) (hn : narrow ty (.int E) = .int E) (hv : v = E) : W p l e R s m args below meth c s.heap [] 0 0 (MQ below (vp_Si (fun r => r = E)) args s 0 0 (fun _ => False)) (F0 m pc ls [.int v]) := by
  subst hv
  exact W.zret hx hb hr hn (fun _ ht _ => ⟨_, rfl, rfl, ht⟩) (fun _ h => by cases h) hdg
theorem rr_l (hx : p.tables.exec = Jvm.exec) (hb : c.code = cc) (hr : meth.sig.returnType = some .long) (hlocks : meth.locks = false) {v E : Int64} (hdg : decode cc pc = .ok (.lreturn, 1)) (hv : v = E) : W p l e R s m args below meth c s.heap [] 0 0 (MQ below (vp_Sl (fun r => r = E)) args s 0 0 (fun _ => False)) (F0 m pc ls [.long v]) :=
  W.lret hx hb hr (fun _ ht _ => ⟨_, rfl, hv, ht⟩) (fun _ h => by cases h) hdg
end ENDS
/-! ===== calls of readers ===== -/
section RCALL
variable {p : Program} {l : Launch} {e : Env} {R : Room} {s : State} {m : MethodId} {args : Array Value} {below : List Frame} {meth : Method} {c : Code} {H : Heap} {locs : List Loc} {cells slots : Nat} {Q : State → Prop}
variable {cc : ByteArray} {pc : Nat} {ls : Array Slot} {rest st : List Value} {nL idx n k : Nat} {own C : String} {y : MethodName} {bts : ByteArray} {ret : Option FieldType} {rm : Room} {Pc : Array Value → State → Prop} {b : Addr} {As : List Value}
theorem rdV {E : Int32} (hx : p.tables.exec = Jvm.exec) (hb : c.code = cc) (hml : c.maxLocals = nL) (hown : s.vm.findClass own = some m.cls) (hg : ∀ w ∈ gG, w.before args s = true) (hM : Met l y (mw y bts n ret) rm Pc (vp_Si (fun r => r = E)) 0 0 (fun _ => False)) (hl : Cond.methodLink own idx y ∈ gG) (hy : vfacts C y bts n ret k) (hR : rm.frames + 1 ≤ R.frames ∧ 8 + (n + 11) + rm.locals ≤ R.locals) (hz : rm.cells = 0 ∧ rm.slots = 0) (hc : cells ≤ R.cells ∧ slots ≤ R.slots) (hp : PreV s H C b Pc As) (hn : As.length = k) (hsz : ls.size = nL) (hst : st = As.reverse ++ .ref b :: rest) (hroom : (rest.map fun v => v.category).sum ≤ 8) (hdg : decode cc pc = .ok (.invokevirtual idx, 3))
    (kk : W p l e R s m args below meth c H locs cells slots Q (F0 m (pc + 3) ls (.int E :: rest))) : W p l e R s m args below meth c H locs cells slots Q (F0 m pc ls st) :=
  vp_callSi (W.runV (As := As) (rest := rest) ⟨hx, hb, hml, hown, hg⟩ hM (cwV_of hg hl hy hz.1 hz.2 hR) hp rfl hn hsz hst (lv_room hroom) hdg hc) (fun r hr => by rw [hr]; exact kk)
theorem rdVl {E : Int64} (hx : p.tables.exec = Jvm.exec) (hb : c.code = cc) (hml : c.maxLocals = nL) (hown : s.vm.findClass own = some m.cls) (hg : ∀ w ∈ gG, w.before args s = true) (hM : Met l y (mw y bts n ret) rm Pc (vp_Sl (fun r => r = E)) 0 0 (fun _ => False)) (hl : Cond.methodLink own idx y ∈ gG) (hy : vfacts C y bts n ret k) (hR : rm.frames + 1 ≤ R.frames ∧ 8 + (n + 11) + rm.locals ≤ R.locals) (hz : rm.cells = 0 ∧ rm.slots = 0) (hc : cells ≤ R.cells ∧ slots ≤ R.slots) (hp : PreV s H C b Pc As) (hn : As.length = k) (hsz : ls.size = nL) (hst : st = As.reverse ++ .ref b :: rest) (hroom : (rest.map fun v => v.category).sum ≤ 8) (hdg : decode cc pc = .ok (.invokevirtual idx, 3))
    (kk : W p l e R s m args below meth c H locs cells slots Q (F0 m (pc + 3) ls (.long E :: rest))) : W p l e R s m args below meth c H locs cells slots Q (F0 m pc ls st) :=
  vp_callSl (W.runV (As := As) (rest := rest) ⟨hx, hb, hml, hown, hg⟩ hM (cwV_of hg hl hy hz.1 hz.2 hR) hp rfl hn hsz hst (lv_room hroom) hdg hc) (fun r hr => by rw [hr]; exact kk)
theorem rdS {E : Int32} (hx : p.tables.exec = Jvm.exec) (hb : c.code = cc) (hml : c.maxLocals = nL) (hown : s.vm.findClass own = some m.cls) (hg : ∀ w ∈ gG, w.before args s = true) (hM : Met l y (mw y bts n ret) rm Pc (vp_Si (fun r => r = E)) 0 0 (fun _ => False)) (hl : Cond.methodLink own idx y ∈ gG) (hy : sfacts C y bts n ret k) (hR : rm.frames + 1 ≤ R.frames ∧ 8 + (n + 11) + rm.locals ≤ R.locals) (hz : rm.cells = 0 ∧ rm.slots = 0) (hc : cells ≤ R.cells ∧ slots ≤ R.slots) (hp : PreS s H Pc As) (hn : As.length = k) (hsz : ls.size = nL) (hst : st = As.reverse ++ rest) (hroom : (rest.map fun v => v.category).sum ≤ 8) (hdg : decode cc pc = .ok (.invokestatic idx, 3))
    (kk : W p l e R s m args below meth c H locs cells slots Q (F0 m (pc + 3) ls (.int E :: rest))) : W p l e R s m args below meth c H locs cells slots Q (F0 m pc ls st) :=
  vp_callSi (W.runS (As := As) (rest := rest) ⟨hx, hb, hml, hown, hg⟩ hM (cwS_of hg hl hy hz.1 hz.2 hR) hp rfl hn hsz hst (lv_room hroom) hdg hc) (fun r hr => by rw [hr]; exact kk)
theorem rdSl {E : Int64} (hx : p.tables.exec = Jvm.exec) (hb : c.code = cc) (hml : c.maxLocals = nL) (hown : s.vm.findClass own = some m.cls) (hg : ∀ w ∈ gG, w.before args s = true) (hM : Met l y (mw y bts n ret) rm Pc (vp_Sl (fun r => r = E)) 0 0 (fun _ => False)) (hl : Cond.methodLink own idx y ∈ gG) (hy : sfacts C y bts n ret k) (hR : rm.frames + 1 ≤ R.frames ∧ 8 + (n + 11) + rm.locals ≤ R.locals) (hz : rm.cells = 0 ∧ rm.slots = 0) (hc : cells ≤ R.cells ∧ slots ≤ R.slots) (hp : PreS s H Pc As) (hn : As.length = k) (hsz : ls.size = nL) (hst : st = As.reverse ++ rest) (hroom : (rest.map fun v => v.category).sum ≤ 8) (hdg : decode cc pc = .ok (.invokestatic idx, 3))
    (kk : W p l e R s m args below meth c H locs cells slots Q (F0 m (pc + 3) ls (.long E :: rest))) : W p l e R s m args below meth c H locs cells slots Q (F0 m pc ls st) :=
  vp_callSl (W.runS (As := As) (rest := rest) ⟨hx, hb, hml, hown, hg⟩ hM (cwS_of hg hl hy hz.1 hz.2 hR) hp rfl hn hsz hst (lv_room hroom) hdg hc) (fun r hr => by rw [hr]; exact kk)
end RCALL
/-! ===== writers: the cells of a world may change, no cell comes ===== -/
/-- the cells of a world -/
def inW (w : va_W) : Nat → Prop := fun q => ∃ (k : Nat) (x : va_E), w[k]? = some (q, x)
def wq {α S : Type} (mk : α → Option Value) (w : va_W) (w1 : S → va_W) (D : va_G) (post : α → S → Prop) : Array Value → State → Outcome → State → Prop := fun _ st o t => (∃ (r : α) (u : S), o = .returned (mk r) ∧ post r u ∧ va_P D vwCl (w1 u) t.heap) ∧ va_F (inW w) st t
abbrev mkI : Int32 → Option Value := fun r => some (.int r)
abbrev mkL : Int64 → Option Value := fun r => some (.long r)
abbrev mkV : Unit → Option Value := fun _ => none
theorem va_D.here {w : va_W} {A : Nat → Prop} (h : va_D A w) : va_D (inW w) w := ⟨h.1, fun k q hq => ⟨k, q.2, hq⟩⟩
/-- the same addresses -/
theorem va_D.addr {A : Nat → Prop} {w w1 : va_W} (h : va_D A w) (e : w1.map (fun q => q.1) = w.map (fun q => q.1)) : va_D A w1 := by
  have key : ∀ (k : Nat) (q : Nat × va_E), w1[k]? = some q → ∃ q0, w[k]? = some q0 ∧ q0.1 = q.1 := by
    intro k q hk
    have h1 : (w1.map (fun q => q.1))[k]? = some q.1 := by rw [List.getElem?_map, hk]; rfl
    rw [e, List.getElem?_map] at h1
    cases h0 : w[k]? with
    | none => rw [h0] at h1; cases h1
    | some q0 => rw [h0] at h1; exact ⟨q0, rfl, Option.some.inj h1⟩
  refine ⟨fun i j x y hi hj hxy => ?_, fun k q hk => ?_⟩
  · obtain ⟨x0, a1, a2⟩ := key i x hi
    obtain ⟨y0, b1, b2⟩ := key j y hj
    exact h.1 i j x0 y0 a1 b1 (by rw [a2, b2]; exact hxy)
  · obtain ⟨q0, a1, a2⟩ := key k q hk
    rw [← a2]
    exact h.2 k q0 a1
theorem inW.addr {w w1 : va_W} (e : w1.map (fun q => q.1) = w.map (fun q => q.1)) {q : Nat} (h : inW w1 q) : inW w q := by
  obtain ⟨k, x, hk⟩ := h
  have h1 : (w1.map (fun q => q.1))[k]? = some q := by rw [List.getElem?_map, hk]; rfl
  rw [e, List.getElem?_map] at h1
  cases h0 : w[k]? with
  | none => rw [h0] at h1; cases h1
  | some q0 =>
    rw [h0] at h1
    have h2 : q0.1 = q := Option.some.inj h1
    exact ⟨k, q0.2, by rw [h0, ← h2]⟩
/-- some cells set, at places -/
def wsets (ws : va_W) : List Nat → va_W → va_W
  | i :: is, x :: xs => wsets (ws.set i x) is xs
  | _, _ => ws
theorem wsets_get : ∀ (is : List Nat) (xs ws : va_W) (k : Nat) (q : Nat × va_E), (wsets ws is xs)[k]? = some q → (∃ j : Nat, is[j]? = some k ∧ xs[j]? = some q) ∨ (ws[k]? = some q ∧ ∀ j : Nat, j < xs.length → is[j]? ≠ some k) ∨ (ws[k]? = some q ∧ ∃ j : Nat, is[j]? = none ∧ j < xs.length)
  | [], [], ws, k, q, h => Or.inr (Or.inl ⟨h, fun j hj => by simp at hj⟩)
  | [], x :: xs, ws, k, q, h => Or.inr (Or.inr ⟨h, 0, rfl, by simp⟩)
  | i :: is, [], ws, k, q, h => Or.inr (Or.inl ⟨h, fun j hj => by simp at hj⟩)
  | i :: is, x :: xs, ws, k, q, h => by
    rcases wsets_get is xs (ws.set i x) k q h with ⟨j, h1, h2⟩ | ⟨h1, h2⟩ | ⟨h1, j, h2, h3⟩
    · exact Or.inl ⟨j + 1, by simpa using h1, by simpa using h2⟩
    · rw [List.getElem?_set] at h1
      by_cases hik : i = k
      · rw [if_pos hik] at h1
        split at h1
        · cases h1
          exact Or.inl ⟨0, by simp [hik], by simp⟩
        · cases h1
      · rw [if_neg hik] at h1
        refine Or.inr (Or.inl ⟨h1, fun j hj => ?_⟩)
        cases j with
        | zero => simpa using hik
        | succ j => simpa using h2 j (by simpa using hj)
    · rw [List.getElem?_set] at h1
      by_cases hik : i = k
      · rw [if_pos hik] at h1
        split at h1
        · cases h1
          exact Or.inl ⟨0, by simp [hik], by simp⟩
        · cases h1
      · rw [if_neg hik] at h1
        exact Or.inr (Or.inr ⟨h1, j + 1, by simpa using h2, by simpa using h3⟩)
/-- behind a call of a writer on some of the world's cells -/
theorem wjoin {A0 : Nat → Prop} {D : va_G} {ws wc w1 : va_W} {H H1 : Heap} (hP : va_P D vwCl ws H) (hD : va_D A0 ws) (is : List Nat) (hC : is.map (fun i => ws[i]?) = wc.map some) (he : w1.map (fun q => q.1) = wc.map (fun q => q.1)) (hP1 : va_P D vwCl w1 H1) (hk : ∀ q : Nat, q < H.size → ¬ inW wc q → H1[q]? = H[q]?) : va_P D vwCl (wsets ws is w1) H1 := by
  have hlen : is.length = w1.length := by
    have h1 := congrArg List.length hC
    have h2 := congrArg List.length he
    simp only [List.length_map] at h1 h2
    omega
  intro k q hq
  rcases wsets_get is w1 ws k q hq with ⟨j, h1, h2⟩ | ⟨h1, h2⟩ | ⟨h1, j, h2, h3⟩
  · exact hP1 j q h2
  · refine (hP k q h1).kept (hk q.1 (hP k q h1).lt (fun hin => ?_))
    obtain ⟨j, x, hj⟩ := hin
    have h3 : (is.map (fun i => ws[i]?))[j]? = some (some (q.1, x)) := by rw [hC, List.getElem?_map, hj]; rfl
    rw [List.getElem?_map] at h3
    cases hi : is[j]? with
    | none => rw [hi] at h3; cases h3
    | some i =>
      rw [hi] at h3
      have h4 : ws[i]? = some (q.1, x) := Option.some.inj h3
      have h5 := hD.1 i k (q.1, x) q h4 h1 rfl
      refine h2 j ?_ (by rw [hi, h5])
      rw [← hlen]
      exact (List.getElem?_eq_some_iff.mp hi).1
  · rw [← hlen] at h3
    rw [List.getElem?_eq_getElem h3] at h2
    cases h2
theorem inW_sub {A0 : Nat → Prop} {ws wc : va_W} (hD : va_D A0 ws) (is : List Nat) (hC : is.map (fun i => ws[i]?) = wc.map some) : ∀ q : Nat, inW wc q → A0 q := by
  intro q h
  obtain ⟨j, x, hj⟩ := h
  have h3 : (is.map (fun i => ws[i]?))[j]? = some (some (q, x)) := by rw [hC, List.getElem?_map, hj]; rfl
  rw [List.getElem?_map] at h3
  cases hi : is[j]? with
  | none => rw [hi] at h3; cases h3
  | some i =>
    rw [hi] at h3
    exact hD.2 i (q, x) (Option.some.inj h3)
theorem inW_all {A0 : Nat → Prop} {ws : va_W} (hD : va_D A0 ws) : ∀ q : Nat, inW ws q → A0 q := fun q h => by
  obtain ⟨j, x, hj⟩ := h
  exact hD.2 j (q, x) hj
section WCALL
variable {p : Program} {l : Launch} {e : Env} {R : Room} {s : State} {m : MethodId} {args : Array Value} {below : List Frame} {meth : Method} {c : Code} {H : Heap} {locs : List Loc} {cells slots : Nat} {Q : State → Prop}
variable {cc : ByteArray} {pc : Nat} {ls : Array Slot} {rest st : List Value} {nL idx n k : Nat} {own C : String} {y : MethodName} {bts : ByteArray} {ret : Option FieldType} {rm : Room} {Pc : Array Value → State → Prop} {b : Addr} {As : List Value} {A0 : Nat → Prop} {H0 : Heap} {D : va_G} {w : va_W}
theorem wrV {α S : Type} {mk : α → Option Value} {w1 : S → va_W} {post : α → S → Prop} (hx : p.tables.exec = Jvm.exec) (hb : c.code = cc) (hml : c.maxLocals = nL) (hown : s.vm.findClass own = some m.cls) (hg : ∀ w ∈ gG, w.before args s = true) (hM : Met l y (mw y bts n ret) rm Pc (wq mk w w1 D post) 0 0 (inW w)) (hl : Cond.methodLink own idx y ∈ gG) (hy : vfacts C y bts n ret k) (hR : rm.frames + 1 ≤ R.frames ∧ 8 + (n + 11) + rm.locals ≤ R.locals) (hz : rm.cells = 0 ∧ rm.slots = 0) (hc : cells ≤ R.cells ∧ slots ≤ R.slots) (hp : PreV s H C b Pc As) (hn : As.length = k) (hsz : ls.size = nL) (hst : st = As.reverse ++ .ref b :: rest) (hroom : (rest.map fun v => v.category).sum ≤ 8) (hdg : decode cc pc = .ok (.invokevirtual idx, 3)) (hS : va_S A0 H0 H locs) (hf : ∀ q, inW w q → A0 q)
    (kk : ∀ (r : α) (u : S) (H1 : Heap) (locs1 : List Loc), post r u → va_P D vwCl (w1 u) H1 → (∀ q : Nat, q < H.size → ¬ inW w q → H1[q]? = H[q]?) → va_S A0 H0 H1 locs1 → W p l e R s m args below meth c H1 locs1 cells slots Q (F0 m (pc + 3) ls ((mk r).toList ++ rest))) : W p l e R s m args below meth c H locs cells slots Q (F0 m pc ls st) := by
  intro T hT X
  obtain ⟨v, st₀, t, T', L, h0, X', hL, e1, ⟨⟨r, u, hv, hpo, hP1⟩, hsz1, hk⟩, stp⟩ := (W.runV (As := As) (rest := rest) ⟨hx, hb, hml, hown, hg⟩ hM (cwV_of hg hl hy hz.1 hz.2 hR) hp rfl hn hsz hst (lv_room hroom) hdg hc) T hT X
  cases hv
  rw [h0] at hsz1 hk
  obtain ⟨t2, a1, b1⟩ := kk r u t.heap (locs ++ L) hpo hP1 hk
    ⟨Nat.le_trans hS.1 hsz1, fun q h1 h2 => by rw [hk q (Nat.lt_of_lt_of_le h1 hS.1) (fun z => h2 (hf q z))]; exact hS.2.1 q h1 h2, fun q hq => by
      rcases List.mem_append.mp hq with h | h
      · exact hS.2.2 q h
      · exact hf _ (hL q h)⟩ T' e1 X'
  exact ⟨t2, stp t2 a1, b1⟩
end WCALL
section WENDS
variable {p : Program} {l : Launch} {e : Env} {R : Room} {s : State} {m : MethodId} {args : Array Value} {below : List Frame} {meth : Method} {c : Code} {cc : ByteArray} {pc : Nat} {ls : Array Slot} {H : Heap} {locs : List Loc} {D : va_G} {w : va_W}
theorem wr_i {S : Type} {w1 : S → va_W} {post : Int32 → S → Prop} (hx : p.tables.exec = Jvm.exec) (hb : c.code = cc) (hr : meth.sig.returnType = some .int) (hlocks : meth.locks = false) (hS : va_S (inW w) s.heap H locs) {v : Int32} (u : S) (hP : va_P D vwCl (w1 u) H) (hdg : decode cc pc = .ok (.ireturn, 1)) (hv : post v u) : W p l e R s m args below meth c H locs 0 0 (MQ below (wq mkI w w1 D post) args s 0 0 (inW w)) (F0 m pc ls [.int v]) :=
  W.iret hx hb hr (fun t ht _ => ⟨⟨v, u, rfl, hv, by rw [ht]; exact hP⟩, hS.F ht⟩) hS.2.2 hdg
theorem wr_l {S : Type} {w1 : S → va_W} {post : Int64 → S → Prop} (hx : p.tables.exec = Jvm.exec) (hb : c.code = cc) (hr : meth.sig.returnType = some .long) (hlocks : meth.locks = false) (hS : va_S (inW w) s.heap H locs) {v : Int64} (u : S) (hP : va_P D vwCl (w1 u) H) (hdg : decode cc pc = .ok (.lreturn, 1)) (hv : post v u) : W p l e R s m args below meth c H locs 0 0 (MQ below (wq mkL w w1 D post) args s 0 0 (inW w)) (F0 m pc ls [.long v]) :=
  W.lret hx hb hr (fun t ht _ => ⟨⟨v, u, rfl, hv, by rw [ht]; exact hP⟩, hS.F ht⟩) hS.2.2 hdg
theorem wr_v {S : Type} {w1 : S → va_W} {post : Unit → S → Prop} (hx : p.tables.exec = Jvm.exec) (hb : c.code = cc) (hr : meth.sig.returnType = none) (hlocks : meth.locks = false) (hS : va_S (inW w) s.heap H locs) (u : S) (hP : va_P D vwCl (w1 u) H) (hdg : decode cc pc = .ok (.return_, 1)) (hv : post () u) : W p l e R s m args below meth c H locs 0 0 (MQ below (wq mkV w w1 D post) args s 0 0 (inW w)) (F0 m pc ls []) :=
  W.vret hx hb hr (fun t ht _ => ⟨⟨(), u, rfl, hv, by rw [ht]; exact hP⟩, hS.F ht⟩) hS.2.2 hdg
end WENDS
end
section
/-! ===== rows over natural numbers: nI k on the stack ===== -/
theorem nI_i1 (j : Nat) : nI j + Int32.ofInt 1 = nI (j + 1) := nI_1 j
theorem ret_t {P : Prop} {_ : Decidable P} (h : P) : nI 1 = bi P := (bi_t h).symm
theorem ret_f {P : Prop} {_ : Decidable P} (h : ¬ P) : nI 0 = bi P := (bi_f h).symm
theorem nI_dec (j : Nat) : nI (j + 1) + Int32.ofInt (-1) = nI j := pk_m1 j
theorem nI_31 {a : Nat} (h : a < 2147483648) : a < 2 ^ 31 := h
section NV
variable {p : Program} {l : Launch} {e : Env} {R : Room} {s : State} {m : MethodId} {args : Array Value} {below : List Frame} {meth : Method} {c : Code} {H : Heap} {locs : List Loc} {cells slots : Nat} {Q : State → Prop}
variable {cc : ByteArray} {pc : Nat} {ls : Array Slot} {rest : List Value}
theorem nv_iadd (hx : p.tables.exec = Jvm.exec) (hb : c.code = cc) {a b : Nat} (hdg : decode cc pc = .ok (.iadd, 1)) (k : W p l e R s m args below meth c H locs cells slots Q (F0 m (pc + 1) ls (.int (nI (a + b)) :: rest))) : W p l e R s m args below meth c H locs cells slots Q (F0 m pc ls (.int (nI b) :: .int (nI a) :: rest)) :=
  lv_iadd hx hb hdg (by rw [nI_add]; exact k)
theorem nv_imul (hx : p.tables.exec = Jvm.exec) (hb : c.code = cc) {a b : Nat} (hdg : decode cc pc = .ok (.imul, 1)) (k : W p l e R s m args below meth c H locs cells slots Q (F0 m (pc + 1) ls (.int (nI (a * b)) :: rest))) : W p l e R s m args below meth c H locs cells slots Q (F0 m pc ls (.int (nI b) :: .int (nI a) :: rest)) :=
  lv_imul hx hb hdg (by rw [pk_mul]; exact k)
theorem nv_isub (hx : p.tables.exec = Jvm.exec) (hb : c.code = cc) {a b : Nat} (hdg : decode cc pc = .ok (.isub, 1)) (h : b ≤ a) (k : W p l e R s m args below meth c H locs cells slots Q (F0 m (pc + 1) ls (.int (nI (a - b)) :: rest))) : W p l e R s m args below meth c H locs cells slots Q (F0 m pc ls (.int (nI b) :: .int (nI a) :: rest)) :=
  lv_isub hx hb hdg (by rw [pk_sub h]; exact k)
theorem nv_idiv (hx : p.tables.exec = Jvm.exec) (hb : c.code = cc) {a b : Nat} (hdg : decode cc pc = .ok (.idiv, 1)) (ha : a < 2147483648) (h0 : 0 < b) (hd : b < 2147483648) (k : W p l e R s m args below meth c H locs cells slots Q (F0 m (pc + 1) ls (.int (nI (a / b)) :: rest))) : W p l e R s m args below meth c H locs cells slots Q (F0 m pc ls (.int (nI b) :: .int (nI a) :: rest)) :=
  lv_idiv hx hb hdg (nI_ne0 h0 hd) (by rw [pk_div ha h0 hd]; exact k)
theorem nv_irem (hx : p.tables.exec = Jvm.exec) (hb : c.code = cc) {a b : Nat} (hdg : decode cc pc = .ok (.irem, 1)) (ha : a < 2147483648) (h0 : 0 < b) (hd : b < 2147483648) (k : W p l e R s m args below meth c H locs cells slots Q (F0 m (pc + 1) ls (.int (nI (a % b)) :: rest))) : W p l e R s m args below meth c H locs cells slots Q (F0 m pc ls (.int (nI b) :: .int (nI a) :: rest)) :=
  lv_irem hx hb hdg (nI_ne0 h0 hd) (by rw [pk_rem ha h0 hd]; exact k)
theorem nv_icmp_eq (hx : p.tables.exec = Jvm.exec) (hb : c.code = cc) {a b : Nat} {off : Int} {tgt : Nat} (hdg : decode cc pc = .ok (.if_icmp .eq off, 3)) (ha : a < 2147483648) (hb1 : b < 2147483648) (ht : (pc : Int) + off = (tgt : Int))
    (kt : a = b → W p l e R s m args below meth c H locs cells slots Q (F0 m tgt ls rest)) (kf : ¬ a = b → W p l e R s m args below meth c H locs cells slots Q (F0 m (pc + 3) ls rest)) : W p l e R s m args below meth c H locs cells slots Q (F0 m pc ls (.int (nI b) :: .int (nI a) :: rest)) :=
  lv_icmp_eq hx hb hdg ht (fun h => kt ((nI_eq ha hb1).mp h)) (fun h => kf (fun q => h ((nI_eq ha hb1).mpr q)))
theorem nv_icmp_ne (hx : p.tables.exec = Jvm.exec) (hb : c.code = cc) {a b : Nat} {off : Int} {tgt : Nat} (hdg : decode cc pc = .ok (.if_icmp .ne off, 3)) (ha : a < 2147483648) (hb1 : b < 2147483648) (ht : (pc : Int) + off = (tgt : Int))
    (kt : ¬ a = b → W p l e R s m args below meth c H locs cells slots Q (F0 m tgt ls rest)) (kf : a = b → W p l e R s m args below meth c H locs cells slots Q (F0 m (pc + 3) ls rest)) : W p l e R s m args below meth c H locs cells slots Q (F0 m pc ls (.int (nI b) :: .int (nI a) :: rest)) :=
  lv_icmp_ne hx hb hdg ht (fun h => kt (fun q => h ((nI_eq ha hb1).mpr q))) (fun h => kf ((nI_eq ha hb1).mp h))
theorem nv_icmp_lt (hx : p.tables.exec = Jvm.exec) (hb : c.code = cc) {a b : Nat} {off : Int} {tgt : Nat} (hdg : decode cc pc = .ok (.if_icmp .lt off, 3)) (ha : a < 2147483648) (hb1 : b < 2147483648) (ht : (pc : Int) + off = (tgt : Int))
    (kt : a < b → W p l e R s m args below meth c H locs cells slots Q (F0 m tgt ls rest)) (kf : b ≤ a → W p l e R s m args below meth c H locs cells slots Q (F0 m (pc + 3) ls rest)) : W p l e R s m args below meth c H locs cells slots Q (F0 m pc ls (.int (nI b) :: .int (nI a) :: rest)) :=
  lv_icmp_lt hx hb hdg ht (fun h => kt ((nI_ltI ha hb1).mp h)) (fun h => kf (Nat.le_of_not_lt (fun q => h ((nI_ltI ha hb1).mpr q))))
theorem nv_icmp_ge (hx : p.tables.exec = Jvm.exec) (hb : c.code = cc) {a b : Nat} {off : Int} {tgt : Nat} (hdg : decode cc pc = .ok (.if_icmp .ge off, 3)) (ha : a < 2147483648) (hb1 : b < 2147483648) (ht : (pc : Int) + off = (tgt : Int))
    (kt : b ≤ a → W p l e R s m args below meth c H locs cells slots Q (F0 m tgt ls rest)) (kf : a < b → W p l e R s m args below meth c H locs cells slots Q (F0 m (pc + 3) ls rest)) : W p l e R s m args below meth c H locs cells slots Q (F0 m pc ls (.int (nI b) :: .int (nI a) :: rest)) :=
  lv_icmp_ge hx hb hdg ht (fun h => kt ((nI_leI hb1 ha).mp h)) (fun h => kf (Nat.lt_of_not_le (fun q => h ((nI_leI hb1 ha).mpr q))))
theorem nv_icmp_gt (hx : p.tables.exec = Jvm.exec) (hb : c.code = cc) {a b : Nat} {off : Int} {tgt : Nat} (hdg : decode cc pc = .ok (.if_icmp .gt off, 3)) (ha : a < 2147483648) (hb1 : b < 2147483648) (ht : (pc : Int) + off = (tgt : Int))
    (kt : b < a → W p l e R s m args below meth c H locs cells slots Q (F0 m tgt ls rest)) (kf : a ≤ b → W p l e R s m args below meth c H locs cells slots Q (F0 m (pc + 3) ls rest)) : W p l e R s m args below meth c H locs cells slots Q (F0 m pc ls (.int (nI b) :: .int (nI a) :: rest)) :=
  lv_icmp_gt hx hb hdg ht (fun h => kt ((nI_ltI hb1 ha).mp h)) (fun h => kf (Nat.le_of_not_lt (fun q => h ((nI_ltI hb1 ha).mpr q))))
theorem nv_icmp_le (hx : p.tables.exec = Jvm.exec) (hb : c.code = cc) {a b : Nat} {off : Int} {tgt : Nat} (hdg : decode cc pc = .ok (.if_icmp .le off, 3)) (ha : a < 2147483648) (hb1 : b < 2147483648) (ht : (pc : Int) + off = (tgt : Int))
    (kt : a ≤ b → W p l e R s m args below meth c H locs cells slots Q (F0 m tgt ls rest)) (kf : b < a → W p l e R s m args below meth c H locs cells slots Q (F0 m (pc + 3) ls rest)) : W p l e R s m args below meth c H locs cells slots Q (F0 m pc ls (.int (nI b) :: .int (nI a) :: rest)) :=
  lv_icmp_le hx hb hdg ht (fun h => kt ((nI_leI ha hb1).mp h)) (fun h => kf (Nat.lt_of_not_le (fun q => h ((nI_leI ha hb1).mpr q))))
theorem nv_if_eq (hx : p.tables.exec = Jvm.exec) (hb : c.code = cc) {a : Nat} {off : Int} {tgt : Nat} (hdg : decode cc pc = .ok (.ifCond .eq off, 3)) (ha : a < 2147483648) (ht : (pc : Int) + off = (tgt : Int))
    (kt : a = 0 → W p l e R s m args below meth c H locs cells slots Q (F0 m tgt ls rest)) (kf : ¬ a = 0 → W p l e R s m args below meth c H locs cells slots Q (F0 m (pc + 3) ls rest)) : W p l e R s m args below meth c H locs cells slots Q (F0 m pc ls (.int (nI a) :: rest)) :=
  lv_if_eq hx hb hdg ht (fun h => kt ((nI_eq (b := 0) ha (by decide)).mp h)) (fun h => kf (fun q => h ((nI_eq (b := 0) ha (by decide)).mpr q)))
theorem nv_if_ne (hx : p.tables.exec = Jvm.exec) (hb : c.code = cc) {a : Nat} {off : Int} {tgt : Nat} (hdg : decode cc pc = .ok (.ifCond .ne off, 3)) (ha : a < 2147483648) (ht : (pc : Int) + off = (tgt : Int))
    (kt : ¬ a = 0 → W p l e R s m args below meth c H locs cells slots Q (F0 m tgt ls rest)) (kf : a = 0 → W p l e R s m args below meth c H locs cells slots Q (F0 m (pc + 3) ls rest)) : W p l e R s m args below meth c H locs cells slots Q (F0 m pc ls (.int (nI a) :: rest)) :=
  lv_if_ne hx hb hdg ht (fun h => kt (fun q => h ((nI_eq (b := 0) ha (by decide)).mpr q))) (fun h => kf ((nI_eq (b := 0) ha (by decide)).mp h))
theorem nv_if_lt (hx : p.tables.exec = Jvm.exec) (hb : c.code = cc) {a : Nat} {off : Int} {tgt : Nat} (hdg : decode cc pc = .ok (.ifCond .lt off, 3)) (ha : a < 2147483648) (ht : (pc : Int) + off = (tgt : Int))
    (kf : W p l e R s m args below meth c H locs cells slots Q (F0 m (pc + 3) ls rest)) : W p l e R s m args below meth c H locs cells slots Q (F0 m pc ls (.int (nI a) :: rest)) :=
  lv_if_lt hx hb hdg ht (fun h => absurd h (nI_pos ha)) (fun _ => kf)
theorem nv_if_ge (hx : p.tables.exec = Jvm.exec) (hb : c.code = cc) {a : Nat} {off : Int} {tgt : Nat} (hdg : decode cc pc = .ok (.ifCond .ge off, 3)) (ha : a < 2147483648) (ht : (pc : Int) + off = (tgt : Int))
    (kt : W p l e R s m args below meth c H locs cells slots Q (F0 m tgt ls rest)) : W p l e R s m args below meth c H locs cells slots Q (F0 m pc ls (.int (nI a) :: rest)) :=
  lv_if_ge hx hb hdg ht (fun _ => kt) (fun h => absurd (nI_pos' ha) h)
theorem nv_if_le (hx : p.tables.exec = Jvm.exec) (hb : c.code = cc) {a : Nat} {off : Int} {tgt : Nat} (hdg : decode cc pc = .ok (.ifCond .le off, 3)) (ha : a < 2147483648) (ht : (pc : Int) + off = (tgt : Int))
    (kt : a = 0 → W p l e R s m args below meth c H locs cells slots Q (F0 m tgt ls rest)) (kf : ¬ a = 0 → W p l e R s m args below meth c H locs cells slots Q (F0 m (pc + 3) ls rest)) : W p l e R s m args below meth c H locs cells slots Q (F0 m pc ls (.int (nI a) :: rest)) :=
  lv_if_le hx hb hdg ht (fun h => kt (Nat.le_zero.mp ((nI_leI (b := 0) ha (by decide)).mp h))) (fun h => kf (fun q => h ((nI_leI (b := 0) ha (by decide)).mpr (by omega))))
theorem bv_if_eq (hx : p.tables.exec = Jvm.exec) (hb : c.code = cc) {P : Prop} {dp : Decidable P} {off : Int} {tgt : Nat} (hdg : decode cc pc = .ok (.ifCond .eq off, 3)) (ht : (pc : Int) + off = (tgt : Int))
    (kt : ¬ P → W p l e R s m args below meth c H locs cells slots Q (F0 m tgt ls rest)) (kf : P → W p l e R s m args below meth c H locs cells slots Q (F0 m (pc + 3) ls rest)) : W p l e R s m args below meth c H locs cells slots Q (F0 m pc ls (.int (bi P) :: rest)) :=
  lv_if_eq hx hb hdg ht (fun h => kt (bi_0.mp h)) (fun h => kf (Decidable.not_not.mp (fun q => h (bi_0.mpr q))))
theorem bv_if_ne (hx : p.tables.exec = Jvm.exec) (hb : c.code = cc) {P : Prop} {dp : Decidable P} {off : Int} {tgt : Nat} (hdg : decode cc pc = .ok (.ifCond .ne off, 3)) (ht : (pc : Int) + off = (tgt : Int))
    (kt : P → W p l e R s m args below meth c H locs cells slots Q (F0 m tgt ls rest)) (kf : ¬ P → W p l e R s m args below meth c H locs cells slots Q (F0 m (pc + 3) ls rest)) : W p l e R s m args below meth c H locs cells slots Q (F0 m pc ls (.int (bi P) :: rest)) :=
  lv_if_ne hx hb hdg ht (fun h => kt (Decidable.not_not.mp (fun q => h (bi_0.mpr q)))) (fun h => kf (bi_0.mp h))
variable {D : va_G} {cl : List vw_C} {A : Nat → Prop} {a : Nat} {tys : List (ClassId × FieldType)} {ws : va_W} {H0 : Heap}
theorem nv_iald (hexec : p.tables.exec = Jvm.exec) (hb : c.code = cc) (hK : va_K D cl tys s) (hP : va_P D cl ws H) (q0 t0 : Nat) {cA : ClassId} {n : Nat} {f : Nat → Int32} (ha : ws[q0]? = some (a, .inl (cA, n, .inl f))) (ht : tys[t0]? = some (cA, .int)) {i : Nat} (hin : i < n) (hn : n < 2147483648) (hdg : decode cc pc = .ok (.iaload, 1))
    (kk : W p l e R s m args below meth c H locs cells slots Q (F0 m (pc + 1) ls (.int (f i) :: rest))) : W p l e R s m args below meth c H locs cells slots Q (F0 m pc ls (.int (nI i) :: .ref a :: rest)) :=
  va_iald hexec hb hK hP q0 t0 ha ht (vp_in_nI hin hn) hdg (by rw [nI_clamp (Nat.lt_trans hin hn)]; exact kk)
theorem nv_bald (hexec : p.tables.exec = Jvm.exec) (hb : c.code = cc) (hK : va_K D cl tys s) (hP : va_P D cl ws H) (q0 t0 : Nat) {cA : ClassId} {n : Nat} {f : Nat → Int32} (ha : ws[q0]? = some (a, .inl (cA, n, .inl f))) (ht : tys[t0]? = some (cA, .byte)) {i : Nat} (hin : i < n) (hn : n < 2147483648) (hdg : decode cc pc = .ok (.baload, 1))
    (kk : W p l e R s m args below meth c H locs cells slots Q (F0 m (pc + 1) ls (.int (f i) :: rest))) : W p l e R s m args below meth c H locs cells slots Q (F0 m pc ls (.int (nI i) :: .ref a :: rest)) :=
  va_bald hexec hb hK hP q0 t0 ha ht (vp_in_nI hin hn) hdg (by rw [nI_clamp (Nat.lt_trans hin hn)]; exact kk)
theorem nv_iast (hexec : p.tables.exec = Jvm.exec) (hb : c.code = cc) (hK : va_K D cl tys s) (hP : va_P D cl ws H) (hD : va_D A ws) (hS : va_S A H0 H locs) (q0 t0 : Nat) {cA : ClassId} {n : Nat} {f : Nat → Int32} (ha : ws[q0]? = some (a, .inl (cA, n, .inl f))) (ht : tys[t0]? = some (cA, .int)) {i : Nat} {x : Int32} (hin : i < n) (hn : n < 2147483648) (hdg : decode cc pc = .ok (.iastore, 1))
    (kk : ∀ (H1 : Heap) (locs1 : List Loc), va_P D cl (ws.set q0 (a, .inl (cA, n, .inl (upd f i x)))) H1 → va_D A (ws.set q0 (a, .inl (cA, n, .inl (upd f i x)))) → va_S A H0 H1 locs1 → W p l e R s m args below meth c H1 locs1 cells slots Q (F0 m (pc + 1) ls rest)) : W p l e R s m args below meth c H locs cells slots Q (F0 m pc ls (.int x :: .int (nI i) :: .ref a :: rest)) :=
  va_iast hexec hb hK hP hD hS q0 t0 ha ht (vp_in_nI hin hn) hdg (by rw [nI_clamp (Nat.lt_trans hin hn)]; exact kk)
theorem nv_bast (hexec : p.tables.exec = Jvm.exec) (hb : c.code = cc) (hK : va_K D cl tys s) (hP : va_P D cl ws H) (hD : va_D A ws) (hS : va_S A H0 H locs) (q0 t0 : Nat) {cA : ClassId} {n : Nat} {f : Nat → Int32} (ha : ws[q0]? = some (a, .inl (cA, n, .inl f))) (ht : tys[t0]? = some (cA, .byte)) {i : Nat} {x : Int32} (hin : i < n) (hn : n < 2147483648) (hdg : decode cc pc = .ok (.bastore, 1))
    (kk : ∀ (H1 : Heap) (locs1 : List Loc), va_P D cl (ws.set q0 (a, .inl (cA, n, .inl (upd f i (vp_nar .byte x))))) H1 → va_D A (ws.set q0 (a, .inl (cA, n, .inl (upd f i (vp_nar .byte x))))) → va_S A H0 H1 locs1 → W p l e R s m args below meth c H1 locs1 cells slots Q (F0 m (pc + 1) ls rest)) : W p l e R s m args below meth c H locs cells slots Q (F0 m pc ls (.int x :: .int (nI i) :: .ref a :: rest)) :=
  va_bast hexec hb hK hP hD hS q0 t0 ha ht (vp_in_nI hin hn) hdg (by rw [nI_clamp (Nat.lt_trans hin hn)]; exact kk)
/-- a loop that changes no cell: j is how often it went round -/
theorem loopR {nL : Nat} (B : Nat) (I : Nat → Prop) (lv : Nat → List (Nat × Value)) {st : List Value} (j0 : Nat) (hj0 : j0 ≤ B) (h0 : I j0) (hl0 : lv_has ls nL (lv j0))
    (body : ∀ (j : Nat) (ls : Array Slot), j ≤ B → I j → lv_has ls nL (lv j) → (∀ ls' : Array Slot, j + 1 ≤ B → I (j + 1) → lv_has ls' nL (lv (j + 1)) → W p l e R s m args below meth c H locs cells slots Q (F0 m pc ls' st)) → W p l e R s m args below meth c H locs cells slots Q (F0 m pc ls st)) : W p l e R s m args below meth c H locs cells slots Q (F0 m pc ls st) := by
  have key : ∀ (d j : Nat) (ls : Array Slot), B - j ≤ d → j ≤ B → I j → lv_has ls nL (lv j) → W p l e R s m args below meth c H locs cells slots Q (F0 m pc ls st) := by
    intro d
    induction d with
    | zero =>
      intro j ls hd hj hI hl
      exact body j ls hj hI hl (fun ls' h _ _ => absurd h (by omega))
    | succ d ih =>
      intro j ls hd hj hI hl
      exact body j ls hj hI hl (fun ls' h hI' hl' => ih (j + 1) ls' (by omega) h hI' hl')
  exact key (B - j0) j0 ls (Nat.le_refl _) hj0 h0 hl0
/-- a loop that changes cells; u is what else the world depends on -/
theorem loopW {nL : Nat} {S : Type} (B : Nat) (I : Nat → S → Prop) (lv : Nat → S → List (Nat × Value)) (wf : Nat → S → va_W) {st : List Value} (j0 : Nat) (u0 : S) (hj0 : j0 ≤ B) (h0 : I j0 u0) (hl0 : lv_has ls nL (lv j0 u0)) (hP0 : va_P D cl (wf j0 u0) H) (hD0 : va_D A (wf j0 u0)) (hS0 : va_S A H0 H locs)
    (body : ∀ (j : Nat) (u : S) (ls : Array Slot) (H : Heap) (locs : List Loc), j ≤ B → I j u → lv_has ls nL (lv j u) → va_P D cl (wf j u) H → va_D A (wf j u) → va_S A H0 H locs → (∀ (u' : S) (ls' : Array Slot) (H' : Heap) (locs' : List Loc), j + 1 ≤ B → I (j + 1) u' → lv_has ls' nL (lv (j + 1) u') → va_P D cl (wf (j + 1) u') H' → va_D A (wf (j + 1) u') → va_S A H0 H' locs' → W p l e R s m args below meth c H' locs' cells slots Q (F0 m pc ls' st)) → W p l e R s m args below meth c H locs cells slots Q (F0 m pc ls st)) : W p l e R s m args below meth c H locs cells slots Q (F0 m pc ls st) := by
  have key : ∀ (d j : Nat) (u : S) (ls : Array Slot) (H : Heap) (locs : List Loc), B - j ≤ d → j ≤ B → I j u → lv_has ls nL (lv j u) → va_P D cl (wf j u) H → va_D A (wf j u) → va_S A H0 H locs → W p l e R s m args below meth c H locs cells slots Q (F0 m pc ls st) := by
    intro d
    induction d with
    | zero =>
      intro j u ls H locs hd hj hI hl hP hD hS
      exact body j u ls H locs hj hI hl hP hD hS (fun _ _ _ _ h _ _ _ _ _ => absurd h (by omega))
    | succ d ih =>
      intro j u ls H locs hd hj hI hl hP hD hS
      exact body j u ls H locs hj hI hl hP hD hS (fun u' ls' H' locs' h hI' hl' hP' hD' hS' => ih (j + 1) u' ls' H' locs' (by omega) h hI' hl' hP' hD' hS')
  exact key (B - j0) j0 u0 ls H locs (Nat.le_refl _) hj0 h0 hl0 hP0 hD0 hS0
end NV
section WCALL2
variable {p : Program} {l : Launch} {e : Env} {R : Room} {s : State} {m : MethodId} {args : Array Value} {below : List Frame} {meth : Method} {c : Code} {H : Heap} {locs : List Loc} {cells slots : Nat} {Q : State → Prop}
variable {cc : ByteArray} {pc : Nat} {ls : Array Slot} {rest st : List Value} {nL idx n k : Nat} {own C : String} {y : MethodName} {bts : ByteArray} {ret : Option FieldType} {rm : Room} {Pc : Array Value → State → Prop} {b : Addr} {As : List Value} {A0 : Nat → Prop} {H0 : Heap} {D : va_G} {w : va_W}
theorem wrVi {S : Type} {w1 : S → va_W} {post : Int32 → S → Prop} (hx : p.tables.exec = Jvm.exec) (hb : c.code = cc) (hml : c.maxLocals = nL) (hown : s.vm.findClass own = some m.cls) (hg : ∀ w ∈ gG, w.before args s = true) (hM : Met l y (mw y bts n ret) rm Pc (wq mkI w w1 D post) 0 0 (inW w)) (hl : Cond.methodLink own idx y ∈ gG) (hy : vfacts C y bts n ret k) (hR : rm.frames + 1 ≤ R.frames ∧ 8 + (n + 11) + rm.locals ≤ R.locals) (hz : rm.cells = 0 ∧ rm.slots = 0) (hc : cells ≤ R.cells ∧ slots ≤ R.slots) (hp : PreV s H C b Pc As) (hn : As.length = k) (hsz : ls.size = nL) (hst : st = As.reverse ++ .ref b :: rest) (hroom : (rest.map fun v => v.category).sum ≤ 8) (hdg : decode cc pc = .ok (.invokevirtual idx, 3)) (hS : va_S A0 H0 H locs) (hf : ∀ q, inW w q → A0 q)
    (kk : ∀ (r : Int32) (u : S) (H1 : Heap) (locs1 : List Loc), post r u → va_P D vwCl (w1 u) H1 → (∀ q : Nat, q < H.size → ¬ inW w q → H1[q]? = H[q]?) → va_S A0 H0 H1 locs1 → W p l e R s m args below meth c H1 locs1 cells slots Q (F0 m (pc + 3) ls (.int r :: rest))) : W p l e R s m args below meth c H locs cells slots Q (F0 m pc ls st) :=
  wrV hx hb hml hown hg hM hl hy hR hz hc hp hn hsz hst hroom hdg hS hf kk
theorem wrVl {S : Type} {w1 : S → va_W} {post : Int64 → S → Prop} (hx : p.tables.exec = Jvm.exec) (hb : c.code = cc) (hml : c.maxLocals = nL) (hown : s.vm.findClass own = some m.cls) (hg : ∀ w ∈ gG, w.before args s = true) (hM : Met l y (mw y bts n ret) rm Pc (wq mkL w w1 D post) 0 0 (inW w)) (hl : Cond.methodLink own idx y ∈ gG) (hy : vfacts C y bts n ret k) (hR : rm.frames + 1 ≤ R.frames ∧ 8 + (n + 11) + rm.locals ≤ R.locals) (hz : rm.cells = 0 ∧ rm.slots = 0) (hc : cells ≤ R.cells ∧ slots ≤ R.slots) (hp : PreV s H C b Pc As) (hn : As.length = k) (hsz : ls.size = nL) (hst : st = As.reverse ++ .ref b :: rest) (hroom : (rest.map fun v => v.category).sum ≤ 8) (hdg : decode cc pc = .ok (.invokevirtual idx, 3)) (hS : va_S A0 H0 H locs) (hf : ∀ q, inW w q → A0 q)
    (kk : ∀ (r : Int64) (u : S) (H1 : Heap) (locs1 : List Loc), post r u → va_P D vwCl (w1 u) H1 → (∀ q : Nat, q < H.size → ¬ inW w q → H1[q]? = H[q]?) → va_S A0 H0 H1 locs1 → W p l e R s m args below meth c H1 locs1 cells slots Q (F0 m (pc + 3) ls (.long r :: rest))) : W p l e R s m args below meth c H locs cells slots Q (F0 m pc ls st) :=
  wrV hx hb hml hown hg hM hl hy hR hz hc hp hn hsz hst hroom hdg hS hf kk
theorem wrVv {S : Type} {w1 : S → va_W} {post : Unit → S → Prop} (hx : p.tables.exec = Jvm.exec) (hb : c.code = cc) (hml : c.maxLocals = nL) (hown : s.vm.findClass own = some m.cls) (hg : ∀ w ∈ gG, w.before args s = true) (hM : Met l y (mw y bts n ret) rm Pc (wq mkV w w1 D post) 0 0 (inW w)) (hl : Cond.methodLink own idx y ∈ gG) (hy : vfacts C y bts n ret k) (hR : rm.frames + 1 ≤ R.frames ∧ 8 + (n + 11) + rm.locals ≤ R.locals) (hz : rm.cells = 0 ∧ rm.slots = 0) (hc : cells ≤ R.cells ∧ slots ≤ R.slots) (hp : PreV s H C b Pc As) (hn : As.length = k) (hsz : ls.size = nL) (hst : st = As.reverse ++ .ref b :: rest) (hroom : (rest.map fun v => v.category).sum ≤ 8) (hdg : decode cc pc = .ok (.invokevirtual idx, 3)) (hS : va_S A0 H0 H locs) (hf : ∀ q, inW w q → A0 q)
    (kk : ∀ (u : S) (H1 : Heap) (locs1 : List Loc), post () u → va_P D vwCl (w1 u) H1 → (∀ q : Nat, q < H.size → ¬ inW w q → H1[q]? = H[q]?) → va_S A0 H0 H1 locs1 → W p l e R s m args below meth c H1 locs1 cells slots Q (F0 m (pc + 3) ls rest)) : W p l e R s m args below meth c H locs cells slots Q (F0 m pc ls st) :=
  wrV hx hb hml hown hg hM hl hy hR hz hc hp hn hsz hst hroom hdg hS hf (fun _ => kk)
end WCALL2
/-- an array's cells are its contents below its length -/
theorem P_congr {D : va_G} {ws : va_W} {H : Heap} {a : Nat} {cA : ClassId} {n : Nat} {f g : Nat → Int32} (hP : va_P D vwCl ws H) (q : Nat) (hq : ws[q]? = some (a, .inl (cA, n, .inl f))) (hfg : ∀ j : Nat, j < n → f j = g j) : va_P D vwCl (ws.set q (a, .inl (cA, n, .inl g))) H := by
  have e : vp_cell cA (n, .inl f) = vp_cell cA (n, .inl g) := by
    rw [vp_cell_i, vp_cell_i]
    unfold arrV
    congr 1
    apply Array.ext
    · simp
    · intro i h1 h2
      simp at h1 h2 ⊢
      exact hfg i h1
  intro k x hk
  rw [List.getElem?_set] at hk
  by_cases hqk : q = k
  · subst hqk
    rw [if_pos rfl] at hk
    split at hk
    · cases hk
      show H[a]? = some (vp_cell cA (n, .inl g))
      rw [← e]
      exact hP q _ hq
    · cases hk
  · rw [if_neg hqk] at hk
    exact hP k x hk
/-- f below i, g from i on -/
def cpF (f g : Nat → Int32) (i : Nat) : Nat → Int32 := fun j => if j < i then f j else g j
theorem cpF_0 {f g : Nat → Int32} : cpF f g 0 = g := by funext j; simp [cpF]
theorem cpF_s {f g : Nat → Int32} {i : Nat} {x : Int32} (h : x = f i) : upd (cpF f g i) i x = cpF f g (i + 1) := by
  funext j
  unfold upd cpF
  by_cases hj : j = i
  · rw [if_pos hj, if_pos (by omega), hj, h]
  · rw [if_neg hj]
    by_cases h1 : j < i
    · rw [if_pos h1, if_pos (by omega)]
    · rw [if_neg h1, if_neg (by omega)]
theorem cpF_at {f g : Nat → Int32} {n j : Nat} (h : j < n) : cpF f g n j = f j := if_pos h
theorem cpF_no {f g : Nat → Int32} {n j : Nat} (h : n ≤ j) : cpF f g n j = g j := if_neg (by omega)
theorem P_eq {D : va_G} {ws ws' : va_W} {H : Heap} (h : va_P D vwCl ws H) (e : ws = ws') : va_P D vwCl ws' H := e ▸ h
theorem D_eq {A : Nat → Prop} {ws ws' : va_W} (h : va_D A ws) (e : ws = ws') : va_D A ws' := e ▸ h
theorem P_c {D : va_G} {ws w : va_W} {H : Heap} {q : Nat × va_E} {i : Nat} (h : va_P D vwCl ws H) (hi : ws[i]? = some q) (hw : va_P D vwCl w H) : va_P D vwCl (q :: w) H := by
  intro k x hk
  cases k with
  | zero => cases hk; exact h i q hi
  | succ k => exact hw k x hk
theorem P_n {D : va_G} {H : Heap} : va_P D vwCl [] H := fun k q h => by simp at h
section PS
variable {D : va_G} {ws : va_W} {H : Heap} {q1 q2 q3 q4 q5 : Nat × va_E} {i1 i2 i3 i4 i5 : Nat}
theorem P_s1 (h : va_P D vwCl ws H) (h1 : ws[i1]? = some q1) : va_P D vwCl [q1] H := P_c h h1 P_n
theorem P_s2 (h : va_P D vwCl ws H) (h1 : ws[i1]? = some q1) (h2 : ws[i2]? = some q2) : va_P D vwCl [q1, q2] H := P_c h h1 (P_s1 h h2)
theorem P_s3 (h : va_P D vwCl ws H) (h1 : ws[i1]? = some q1) (h2 : ws[i2]? = some q2) (h3 : ws[i3]? = some q3) : va_P D vwCl [q1, q2, q3] H := P_c h h1 (P_s2 h h2 h3)
theorem P_s4 (h : va_P D vwCl ws H) (h1 : ws[i1]? = some q1) (h2 : ws[i2]? = some q2) (h3 : ws[i3]? = some q3) (h4 : ws[i4]? = some q4) : va_P D vwCl [q1, q2, q3, q4] H := P_c h h1 (P_s3 h h2 h3 h4)
theorem P_s5 (h : va_P D vwCl ws H) (h1 : ws[i1]? = some q1) (h2 : ws[i2]? = some q2) (h3 : ws[i3]? = some q3) (h4 : ws[i4]? = some q4) (h5 : ws[i5]? = some q5) : va_P D vwCl [q1, q2, q3, q4, q5] H := P_c h h1 (P_s4 h h2 h3 h4 h5)
theorem M_s2 (h1 : ws[i1]? = some q1) (h2 : ws[i2]? = some q2) : [i1, i2].map (fun i => ws[i]?) = List.map some [q1, q2] := by simp only [List.map, h1, h2]
theorem M_s3 (h1 : ws[i1]? = some q1) (h2 : ws[i2]? = some q2) (h3 : ws[i3]? = some q3) : [i1, i2, i3].map (fun i => ws[i]?) = List.map some [q1, q2, q3] := by simp only [List.map, h1, h2, h3]
theorem M_s4 (h1 : ws[i1]? = some q1) (h2 : ws[i2]? = some q2) (h3 : ws[i3]? = some q3) (h4 : ws[i4]? = some q4) : [i1, i2, i3, i4].map (fun i => ws[i]?) = List.map some [q1, q2, q3, q4] := by simp only [List.map, h1, h2, h3, h4]
theorem M_s5 (h1 : ws[i1]? = some q1) (h2 : ws[i2]? = some q2) (h3 : ws[i3]? = some q3) (h4 : ws[i4]? = some q4) (h5 : ws[i5]? = some q5) : [i1, i2, i3, i4, i5].map (fun i => ws[i]?) = List.map some [q1, q2, q3, q4, q5] := by simp only [List.map, h1, h2, h3, h4, h5]
end PS
end
section
/-! ===== what the answers are, in numbers: shared by class and reference ===== -/
/-- how many j < n have p -/
def cn (p : Nat → Bool) : Nat → Nat
  | 0 => 0
  | k + 1 => cn p k + (if p k = true then 1 else 0)
theorem cn_t {p : Nat → Bool} {k : Nat} (h : p k = true) : cn p (k + 1) = cn p k + 1 := by simp [cn, h]
theorem cn_f {p : Nat → Bool} {k : Nat} (h : p k = false) : cn p (k + 1) = cn p k := by simp [cn, h]
theorem cn_le (p : Nat → Bool) : ∀ k, cn p k ≤ k
  | 0 => Nat.le_refl 0
  | k + 1 => by
    have := cn_le p k
    simp only [cn]
    split <;> omega
theorem cn_c {p q : Nat → Bool} : ∀ {k : Nat}, (∀ j, j < k → p j = q j) → cn p k = cn q k
  | 0, _ => rfl
  | k + 1, h => by
    simp only [cn]
    rw [cn_c (k := k) (fun j hj => h j (by omega)), h k (by omega)]
/-- the first j of lo, lo+1 .. (n of them) that has p; -1: none -/
def ff (p : Nat → Bool) (lo : Nat) : Nat → Int32
  | 0 => -1
  | n + 1 => if p lo = true then nI lo else ff p (lo + 1) n
theorem ff_0 {p : Nat → Bool} {lo : Nat} : ff p lo 0 = -1 := rfl
theorem ff_t {p : Nat → Bool} {lo n : Nat} (h : p lo = true) : ff p lo (n + 1) = nI lo := by simp [ff, h]
theorem ff_f {p : Nat → Bool} {lo n : Nat} (h : p lo = false) : ff p lo (n + 1) = ff p (lo + 1) n := by simp [ff, h]
theorem ff_go {p : Nat → Bool} {n : Nat} : ∀ {j : Nat}, j ≤ n → (∀ i, i < j → p i = false) → ff p 0 n = ff p j (n - j)
  | 0, _, _ => rfl
  | j + 1, hj, h => by
    rw [ff_go (j := j) (by omega) (fun i hi => h i (by omega)), show n - j = (n - (j + 1)) + 1 by omega, ff_f (h j (by omega))]
theorem ff_at {p : Nat → Bool} {n j : Nat} (hj : j < n) (h : ∀ i, i < j → p i = false) (hp : p j = true) : ff p 0 n = nI j := by
  rw [ff_go (by omega) h, show n - j = (n - j - 1) + 1 by omega, ff_t hp]
theorem ff_no {p : Nat → Bool} {n : Nat} (h : ∀ i, i < n → p i = false) : ff p 0 n = -1 := by
  rw [ff_go (Nat.le_refl n) h, Nat.sub_self, ff_0]
theorem ff_c {p q : Nat → Bool} : ∀ {n lo : Nat}, (∀ j, lo ≤ j → j < lo + n → p j = q j) → ff p lo n = ff q lo n
  | 0, _, _ => rfl
  | n + 1, lo, h => by
    simp only [ff]
    rw [h lo (Nat.le_refl _) (by omega), ff_c (n := n) (lo := lo + 1) (fun j h1 h2 => h j (by omega) (by omega))]
theorem ff_cases (p : Nat → Bool) : ∀ (n lo : Nat), (ff p lo n = -1 ∧ ∀ j, lo ≤ j → j < lo + n → p j = false) ∨ ∃ j, lo ≤ j ∧ j < lo + n ∧ ff p lo n = nI j ∧ p j = true ∧ ∀ i, lo ≤ i → i < j → p i = false
  | 0, lo => Or.inl ⟨rfl, fun j h1 h2 => by omega⟩
  | n + 1, lo => by
    by_cases h : p lo = true
    · exact Or.inr ⟨lo, Nat.le_refl _, by omega, ff_t h, h, fun i h1 h2 => by omega⟩
    · have h := Bool.eq_false_iff.mpr h
      rcases ff_cases p n (lo + 1) with ⟨h1, h2⟩ | ⟨j, h1, h2, h3, h4, h5⟩
      · refine Or.inl ⟨by rw [ff_f h]; exact h1, fun j a b => ?_⟩
        by_cases hj : j = lo
        · rw [hj]; exact h
        · exact h2 j (by omega) (by omega)
      · refine Or.inr ⟨j, by omega, by omega, by rw [ff_f h]; exact h3, h4, fun i a b => ?_⟩
        by_cases hi : i = lo
        · rw [hi]; exact h
        · exact h5 i (by omega) (by omega)
/-- the sum of f below n -/
def sm (f : Nat → Int32) : Nat → Int32
  | 0 => nI 0
  | k + 1 => sm f k + f k
theorem sm_c {f g : Nat → Int32} : ∀ {k : Nat}, (∀ j, j < k → f j = g j) → sm f k = sm g k
  | 0, _ => rfl
  | k + 1, h => by
    simp only [sm]
    rw [sm_c (k := k) (fun j hj => h j (by omega)), h k (by omega)]
/-- all j < n have p -/
def al (p : Nat → Bool) : Nat → Bool
  | 0 => true
  | k + 1 => al p k && p k
theorem al_iff {p : Nat → Bool} : ∀ {n : Nat}, al p n = true ↔ ∀ j, j < n → p j = true
  | 0 => ⟨fun _ j hj => by omega, fun _ => rfl⟩
  | n + 1 => by
    simp only [al, Bool.and_eq_true]
    rw [al_iff (n := n)]
    refine ⟨fun h j hj => ?_, fun h => ⟨fun j hj => h j (by omega), h n (by omega)⟩⟩
    by_cases hjn : j = n
    · rw [hjn]; exact h.2
    · exact h.1 j (by omega)
theorem al_no {p : Nat → Bool} {n j : Nat} (hj : j < n) (h : p j = false) : al p n = false := by
  rw [Bool.eq_false_iff]
  intro q
  rw [al_iff.mp q j hj] at h
  cases h
theorem al_c {p q : Nat → Bool} {n : Nat} (h : ∀ j, j < n → p j = q j) : al p n = al q n := by
  rw [Bool.eq_iff_iff, al_iff, al_iff]
  exact ⟨fun a j hj => by rw [← h j hj]; exact a j hj, fun a j hj => by rw [h j hj]; exact a j hj⟩
/-- the greatest of f below n, 0 at least -/
def mxF (f : Nat → Nat) : Nat → Nat
  | 0 => 0
  | k + 1 => max (mxF f k) (f k)
theorem mxF_le {f : Nat → Nat} {b : Nat} : ∀ {n : Nat}, (∀ j, j < n → f j ≤ b) → mxF f n ≤ b
  | 0, _ => Nat.zero_le _
  | n + 1, h => Nat.max_le.mpr ⟨mxF_le (fun j hj => h j (by omega)), h n (by omega)⟩
theorem mxF_ge {f : Nat → Nat} : ∀ {n j : Nat}, j < n → f j ≤ mxF f n
  | 0, _, h => by omega
  | n + 1, j, h => by
    by_cases hj : j = n
    · rw [hj]; exact Nat.le_max_right _ _
    · exact Nat.le_trans (mxF_ge (n := n) (j := j) (by omega)) (Nat.le_max_left _ _)
/-- a house's place is told by x -/
abbrev hIn (n : Nat) (x : Int32) : Prop := nI 0 ≤ x ∧ x < nI n
theorem hIn_of {n : Nat} {x : Int32} (h : hIn n x) (hn : n < 2147483648) : ∃ j : Nat, j < n ∧ x = nI j := by
  rcases pk_ix x (n := n) hn with h1 | h1 | h1
  · exact absurd h1 (Int32.not_lt.mpr h.1)
  · exact absurd h.2 (Int32.not_lt.mpr h1)
  · exact h1
theorem hIn_nI {n j : Nat} (hj : j < n) (hn : n < 2147483648) : hIn n (nI j) := ⟨nI_pos' (by omega), nI_lt hj hn⟩
theorem hIn_iff {n j : Nat} (hj : j < 2147483648) (hn : n < 2147483648) : hIn n (nI j) ↔ j < n := ⟨fun h => (nI_ltI hj hn).mp h.2, fun h => hIn_nI h hn⟩
/-- a house's number by its kind and age -/
def numF (k a : Int32) : Int32 := if k = nI 1 then a / nI 2 else a
def nmF (kd ag : Nat → Int32) (j : Nat) : Int32 := numF (kd j) (ag j)
/-- the age a day later -/
def nxF (k a : Int32) : Int32 := if k = nI 4 then a else a + nI 1
abbrev mayB (k : Int32) : Prop := ¬ (k = nI 2 ∨ k = nI 4)
abbrev lendF (n : Nat) (kd : Nat → Int32) (h : Nat) : Prop := h + 1 < n ∧ kd (h + 1) = nI 3
def bearF (n : Nat) (kd ag : Nat → Int32) (h : Nat) : Nat → Int32 := if lendF n kd h then upd (upd ag h (nI 0)) (h + 1) (nI 0) else upd ag h (nI 0)
/-- the places below k are a day older -/
def groF (kd ag : Nat → Int32) (k : Nat) : Nat → Int32 := fun j => if j < k then nxF (kd j) (ag j) else ag j
/-- the place in the walk -/
def ordP (v : Nat → Int32) (h : Nat) (j : Nat) : Bool := decide (v j < v h ∨ v j = v h ∧ j < h)
def ordF (n : Nat) (v : Nat → Int32) (h : Nat) : Nat := cn (ordP v h) n
theorem ordF_le {n : Nat} {v : Nat → Int32} {h : Nat} : ordF n v h ≤ n := cn_le _ _
/-- the house of a turn (0: none) -/
def hotF (n : Nat) (v : Nat → Int32) (t : Nat) : Nat → Nat
  | 0 => 0
  | k + 1 => if ordF n v (n - (k + 1)) = t then n - (k + 1) else hotF n v t k
def dstF (a b : Nat) : Nat := if b < a then a - b else b - a
def wkP (n : Nat) (v : Nat → Int32) : Nat → Nat
  | 0 => 0
  | t + 1 => hotF n v t n
def wkF (n : Nat) (v : Nat → Int32) : Nat → Nat
  | 0 => 0
  | t + 1 => wkF n v t + dstF (hotF n v t n) (wkP n v t)
/-- a house's number in the end of day d -/
def ageOn (ag pa : Nat → Int32) (td h d : Nat) : Int32 := if d = td then ag h else pa (6 * d + h)
def numOn (kd ag pa : Nat → Int32) (td h d : Nat) : Int32 := numF (kd h) (ageOn ag pa td h d)
/-- the house of least place with a number -/
def hwP (v : Nat → Int32) (x : Int32) (h : Nat) : Bool := decide (v h = x)
def hwF (n : Nat) (v : Nat → Int32) (x : Int32) : Int32 := ff (hwP v x) 0 n
/-- what a house owes -/
def owF (n : Nat) (v : Nat → Int32) (dm dn : Nat → Int32) (nd h : Nat) : Int32 := sm (fun k => if hwF n v (dn k) = nI h then dm k else nI 0) nd
def owA (n : Nat) (v : Nat → Int32) (dm dn : Nat → Int32) (nd : Nat) : Int32 := sm (fun h => owF n v dm dn nd h) n
def unF (n : Nat) (v : Nat → Int32) : Nat := cn (fun h => decide (hwF n v (v h) = nI h)) n
/-- when -/
def agF (k a : Int32) (d : Nat) : Int32 := if k = nI 4 then a else a + nI d
def whF (k a x : Int32) : Int32 := ff (fun d => decide (numF k (agF k a d) = x)) 0 100
/-- can a day be the one of which all is heard -/
def cbP (kd ag pa hh hn : Nat → Int32) (td d k : Nat) : Bool := decide (numOn kd ag pa td (hh k).toNatClampNeg d = hn k)
def cbF (kd ag pa hh hn : Nat → Int32) (td nh d : Nat) : Bool := al (cbP kd ag pa hh hn td d) nh
abbrev hOK (n : Nat) (hh : Nat → Int32) (nh : Nat) : Prop := ∀ k, k < nh → (hh k).toNatClampNeg < n ∧ hh k = nI (hh k).toNatClampNeg
/-- how many j of lo, lo+1 .. (n of them) have p -/
def cr (p : Nat → Bool) (lo : Nat) : Nat → Nat
  | 0 => 0
  | n + 1 => cr p (lo + 1) n + (if p lo = true then 1 else 0)
/-- about, as, then, goesTo, when, days, ask, count -/
def abF (n : Nat) (kd ag bo dm dn : Nat → Int32) (nd h : Nat) : Nat → Int32
  | 0 => kd h
  | 1 => ag h
  | 2 => nmF kd ag h
  | 3 => bo h
  | 4 => owF n (nmF kd ag) dm dn nd h
  | _ => nI (ordF n (nmF kd ag) h)
abbrev x_in (x : Int32) (k : Nat) : Prop := nI 0 ≤ x ∧ x ≤ nI k
abbrev dIn (n td : Nat) (d : Int32) : Prop := 0 < n ∧ nI 0 ≤ d ∧ d ≤ nI td
def abtF (n : Nat) (kd ag bo dm dn : Nat → Int32) (nd : Nat) (x w : Int32) : Int32 := if hIn n x then (if x_in w 5 then abF n kd ag bo dm dn nd x.toNatClampNeg w.toNatClampNeg else -102) else -101
def asF (n : Nat) (kd : Nat → Int32) (x k : Int32) : Int32 := if hIn n x then (if x_in k 4 then (if k = nI 0 ∨ kd x.toNatClampNeg = k ∨ k = nI 2 ∧ kd x.toNatClampNeg = nI 4 then x else -1) else -102) else -101
def thF (n td : Nat) (kd ag pa : Nat → Int32) (x d : Int32) : Int32 := if hIn n x ∧ dIn n td d then numOn kd ag pa td x.toNatClampNeg d.toNatClampNeg else -101
def goF (n td : Nat) (kd ag pa : Nat → Int32) (x d : Int32) : Int32 := if dIn n td d then hwF n (fun h => numOn kd ag pa td h d.toNatClampNeg) x else -101
def whnF (n : Nat) (kd ag : Nat → Int32) (x y : Int32) : Int32 := if hIn n x then whF (kd x.toNatClampNeg) (ag x.toNatClampNeg) y else -101
def dyF (cb : Nat → Bool) (td : Nat) (w : Int32) : Int32 := if w = nI 0 then nI (cn cb (td + 1)) else ff cb 0 (td + 1)
def dysF (n : Nat) (cb : Nat → Bool) (td : Nat) (w : Int32) : Int32 := if x_in w 1 then (if n = 0 then -103 else dyF cb td w) else -102
/-- how many days can be that have the number of day a (v: the house's numbers) -/
def woQ (cb : Nat → Bool) (v : Nat → Int32) (a b : Nat) : Bool := cb b && decide (v a = v b)
def woP (cb : Nat → Bool) (v : Nat → Int32) (td a : Nat) : Nat := if cb a = true then cn (woQ cb v a) (td + 1) else 0
def woF (cb : Nat → Bool) (v : Nat → Int32) (td : Nat) : Nat := mxF (woP cb v td) (td + 1)
def asL (w : Nat → Nat) (f0 : Nat) : Nat → Nat
  | 0 => f0
  | h + 1 => if w h < asL w f0 h then w h else asL w f0 h
def asB (w : Nat → Nat) (f0 : Nat) : Nat → Int32
  | 0 => -1
  | h + 1 => if w h < asL w f0 h then nI h else asB w f0 h
abbrev nOf (kd ag pa : Nat → Int32) (td h : Nat) : Nat → Int32 := fun d => numOn kd ag pa td h d
def f0F (cb : Nat → Bool) (td : Nat) : Nat := if cn cb (td + 1) = 0 then 0 else 268435456
def askF (n : Nat) (kd ag pa : Nat → Int32) (cb : Nat → Bool) (td : Nat) : Int32 := asB (fun h => woF cb (nOf kd ag pa td h) td) (f0F cb td) n
def hmF (n td : Nat) (bs : Int32) (kd ag dm dn : Nat → Int32) (nd nh pl st : Nat) : Nat → Int32
  | 0 => nI n
  | 1 => nI td
  | 2 => bs
  | 3 => sm (nmF kd ag) n
  | 4 => nI (unF n (nmF kd ag))
  | 5 => nI nd
  | 6 => owA n (nmF kd ag) dm dn nd
  | 7 => nI nh
  | 8 => nI pl
  | _ => nI st
def cntF (n td : Nat) (bs : Int32) (kd ag dm dn : Nat → Int32) (nd nh pl st : Nat) (w : Int32) : Int32 := if x_in w 9 then hmF n td bs kd ag dm dn nd nh pl st w.toNatClampNeg else -102
/-- is a house in a set -/
abbrev biS (set h : Nat) : Prop := set.testBit h = true
def popF (set : Nat) : Nat := cn (fun k => set.testBit k) 6
/-- the page: the first place that does not have p (lo + n: none) -/
def fz (p : Nat → Bool) (lo : Nat) : Nat → Nat
  | 0 => lo
  | n + 1 => if p lo = true then fz p (lo + 1) n else lo
def kindF (c : Nat) : Int32 := if c = 104 then 0 else if c = 116 then 1 else if c = 109 then 2 else if c = 99 then 3 else if c = 98 then 4 else -1
abbrev pgOK (pg : Nat → Int32) (pl : Nat) : Prop := ∀ k, k < pl → pg k = nI (pg k).toNatClampNeg ∧ 32 ≤ (pg k).toNatClampNeg ∧ (pg k).toNatClampNeg ≤ 126
/-- a letter may be at its place -/
def gdM (pg : Nat → Int32) (k : Nat) : Bool := if k % 3 = 0 then !decide (kindF (pg k).toNatClampNeg = -1) else if k % 3 = 1 then decide (48 ≤ (pg k).toNatClampNeg ∧ (pg k).toNatClampNeg ≤ 57) else decide ((pg k).toNatClampNeg = 44 ∧ k < 17)
def gdX (k c : Nat) : Bool := decide (k < 17) && (if k % 3 = 0 then !decide (kindF c = -1) else if k % 3 = 1 then decide (48 ≤ c ∧ c ≤ 57) else decide (c = 44))
def ftF (pg : Nat → Int32) (pl : Nat) : Nat := fz (fun k => gdX k (pg k).toNatClampNeg) 0 pl
end
section
/-! ===== facts of numbers for the walks ===== -/
theorem x_in_of {x : Int32} {k : Nat} (h : x_in x k) (hk : k < 2147483647) : ∃ w : Nat, w ≤ k ∧ x = nI w := by
  rcases pk_ix x (n := k + 1) (by omega) with h1 | h1 | ⟨j, h1, h2⟩
  · exact absurd h1 (Int32.not_lt.mpr h.1)
  · exact absurd (Int32.le_trans h1 h.2) (nI_ge (Nat.lt_succ_self k) (by omega))
  · exact ⟨j, by omega, h2⟩
theorem x_in_nI {w k : Nat} (h : w ≤ k) (hk : k < 2147483648) : x_in (nI w) k := ⟨nI_pos' (by omega), nI_le h hk⟩
theorem x_out {x : Int32} {k : Nat} (h : ¬ x_in x k) (hk : k < 2147483648) : x.toInt < 0 ∨ (k : Int) < x.toInt := by
  have e := nI_toInt (n := k) hk
  rcases Classical.em (0 ≤ x) with h0 | h0
  · refine Or.inr ?_
    have h1 : ¬ x ≤ nI k := fun q => h ⟨h0, q⟩
    rw [Int32.le_iff_toInt_le, e] at h1
    omega
  · refine Or.inl ?_
    rw [Int32.le_iff_toInt_le] at h0
    have : (0 : Int32).toInt = 0 := rfl
    omega
theorem isH_iff {n : Nat} {x : Int32} (h : n ≤ 6) : (nI 0 ≤ x ∧ x ≤ nI n - nI 1) ↔ hIn n x := by
  by_cases h0 : n = 0
  · subst h0
    refine ⟨fun q => ?_, fun q => ?_⟩
    · have := Int32.le_trans q.1 q.2
      exact absurd this (by decide)
    · exact absurd q.2 (Int32.not_lt.mpr q.1)
  · rw [pk_sub (show 1 ≤ n by omega)]
    refine ⟨fun q => ⟨q.1, ?_⟩, fun q => ⟨q.1, ?_⟩⟩
    · exact Int32.lt_of_le_of_lt q.2 (nI_lt (by omega) (by omega))
    · obtain ⟨j, hj, rfl⟩ := hIn_of q (by omega)
      exact nI_le (by omega) (by omega)
theorem dec_eq (k : Nat) : nI k + Int32.ofInt (-1) = nI k - nI 1 := by
  rw [Int32.sub_eq_add_neg]; rfl
theorem sub1_pos {m : Nat} (h : m < 2147483648) (hn : ¬ nI m - nI 1 < 0) : ∃ k, m = k + 1 := by
  cases m with
  | zero => exact absurd (by decide) hn
  | succ k => exact ⟨k, rfl⟩
theorem sub1_neg {m : Nat} (h : m < 2147483648) (hn : nI m - nI 1 < 0) : m = 0 := by
  cases m with
  | zero => rfl
  | succ k =>
    rw [pk_sub (show 1 ≤ k + 1 by omega)] at hn
    exact absurd hn (nI_pos (by omega))
theorem sub1_s (k : Nat) : nI (k + 1) - nI 1 = nI k := pk_sub (by omega)
/-- pigeons: an injective map of n places into n places meets every place -/
theorem pig : ∀ (n : Nat) (f : Nat → Nat), (∀ i, i < n → f i < n) → (∀ i j, i < n → j < n → f i = f j → i = j) → ∀ t, t < n → ∃ i, i < n ∧ f i = t
  | 0, _, _, _, t, ht => by omega
  | n + 1, f, hr, hi, t, ht => by
    by_cases hl : f n = t
    · exact ⟨n, by omega, hl⟩
    -- g: f with n moved to where f n was
    have hg := pig n (fun i => if f i = n then f n else f i)
      (fun i hin => by
        by_cases h : f i = n
        · simp only [h, if_true]
          have h1 := hr n (by omega)
          have h2 : f n ≠ n := fun q => absurd (hi i n (by omega) (by omega) (by omega)) (by omega)
          omega
        · simp only [h, if_false]
          have := hr i (by omega)
          omega)
      (fun i j hin hjn he => by
        by_cases h1 : f i = n <;> by_cases h2 : f j = n
        · exact hi i j (by omega) (by omega) (by omega)
        · simp only [h1, h2, if_true, if_false] at he
          exact absurd (hi n j (by omega) (by omega) he) (by omega)
        · simp only [h1, h2, if_true, if_false] at he
          exact absurd (hi i n (by omega) (by omega) he) (by omega)
        · simp only [h1, h2, if_false] at he
          exact hi i j (by omega) (by omega) he)
    by_cases htn : t = n
    · -- some i < n with f i = n, or f n = n
      by_cases hfn : f n = n
      · exact ⟨n, by omega, by omega⟩
      · have hfl : f n < n := by have := hr n (by omega); omega
        obtain ⟨i, h1, h2⟩ := hg (f n) hfl
        by_cases h : f i = n
        · exact ⟨i, by omega, by omega⟩
        · simp only [h, if_false] at h2
          exact absurd (hi i n (by omega) (by omega) h2) (by omega)
    · obtain ⟨i, h1, h2⟩ := hg t (by omega)
      by_cases h : f i = n
      · simp only [h, if_true] at h2
        exact absurd h2 hl
      · simp only [h, if_false] at h2
        exact ⟨i, by omega, h2⟩
theorem cn_mono {p q : Nat → Bool} : ∀ {k : Nat}, (∀ j, j < k → p j = true → q j = true) → cn p k ≤ cn q k
  | 0, _ => Nat.le_refl _
  | k + 1, h => by
    have h1 := cn_mono (k := k) (fun j hj => h j (by omega))
    simp only [cn]
    by_cases hp : p k = true
    · rw [if_pos hp, if_pos (h k (by omega) hp)]; omega
    · rw [if_neg hp]; omega
theorem cn_lt {p q : Nat → Bool} : ∀ {k i : Nat}, i < k → p i = false → q i = true → (∀ j, j < k → p j = true → q j = true) → cn p k < cn q k
  | 0, i, hi, _, _, _ => by omega
  | k + 1, i, hi, hp, hq, h => by
    simp only [cn]
    by_cases hik : i = k
    · subst hik
      have := cn_mono (k := i) (p := p) (q := q) (fun j hj => h j (by omega))
      rw [if_neg (by rw [hp]; decide), if_pos hq]; omega
    · have h1 := cn_lt (k := k) (i := i) (by omega) hp hq (fun j hj => h j (by omega))
      by_cases hp2 : p k = true
      · rw [if_pos hp2, if_pos (h k (by omega) hp2)]; omega
      · rw [if_neg hp2]; omega
theorem cn_all_lt {p : Nat → Bool} {k i : Nat} (hi : i < k) (hp : p i = false) : cn p k < k := by
  have h := cn_lt (p := p) (q := fun _ => true) hi hp rfl (fun _ _ _ => rfl)
  have h2 : cn (fun _ => true) k ≤ k := cn_le _ _
  omega
/-- before: less, or like and of lesser place -/
theorem ordP_tr {v : Nat → Int32} {a b c : Nat} (h1 : ordP v b a = true) (h2 : ordP v c b = true) : ordP v c a = true := by
  simp only [ordP, decide_eq_true_eq] at *
  rcases h1 with h1 | ⟨h1, h3⟩ <;> rcases h2 with h2 | ⟨h2, h4⟩
  · exact Or.inl (Int32.lt_trans h1 h2)
  · exact Or.inl (by rw [← h2]; exact h1)
  · exact Or.inl (by rw [h1]; exact h2)
  · exact Or.inr ⟨by rw [h1, h2], by omega⟩
theorem ordP_irr {v : Nat → Int32} {a : Nat} : ordP v a a = false := by
  simp only [ordP, decide_eq_false_iff_not]
  rintro (h | ⟨-, h⟩)
  · exact Int32.lt_irrefl h
  · omega
theorem ordP_tot {v : Nat → Int32} {a b : Nat} (h : a ≠ b) : ordP v b a = true ∨ ordP v a b = true := by
  simp only [ordP, decide_eq_true_eq]
  rcases Int32.lt_or_le (v a) (v b) with h1 | h1
  · exact Or.inl (Or.inl h1)
  · rcases Int32.lt_or_eq_of_le h1 with h2 | h2
    · exact Or.inr (Or.inl h2)
    · rcases Nat.lt_or_gt_of_ne h with h3 | h3
      · exact Or.inl (Or.inr ⟨h2.symm, h3⟩)
      · exact Or.inr (Or.inr ⟨h2, h3⟩)
theorem ordF_lt {n : Nat} {v : Nat → Int32} {h : Nat} (hh : h < n) : ordF n v h < n := cn_all_lt hh ordP_irr
theorem ordF_inj {n : Nat} {v : Nat → Int32} {a b : Nat} (ha : a < n) (hb : b < n) (h : ordF n v a = ordF n v b) : a = b := by
  apply Classical.byContradiction
  intro hne
  rcases ordP_tot (v := v) hne with h1 | h1
  · have := cn_lt (p := ordP v a) (q := ordP v b) ha ordP_irr h1 (fun j _ hj => ordP_tr hj h1)
    unfold ordF at h
    omega
  · have := cn_lt (p := ordP v b) (q := ordP v a) hb ordP_irr h1 (fun j _ hj => ordP_tr hj h1)
    unfold ordF at h
    omega
theorem hot_go {n : Nat} {v : Nat → Int32} {t i : Nat} : ∀ {k : Nat}, k ≤ n → n - k ≤ i → i < n → ordF n v i = t → (∀ j, n - k ≤ j → j < i → ordF n v j ≠ t) → hotF n v t k = i
  | 0, _, h1, h2, _, _ => by omega
  | k + 1, hk, h1, h2, h3, h4 => by
    simp only [hotF]
    by_cases h : n - (k + 1) = i
    · rw [if_pos (by rw [h]; exact h3)]; exact h
    · rw [if_neg (h4 _ (Nat.le_refl _) (by omega))]
      exact hot_go (by omega) (by omega) h2 h3 (fun j a b => h4 j (by omega) b)
/-- the house of a turn is there, and is the first of its turn -/
theorem hot_ok {n : Nat} {v : Nat → Int32} {t : Nat} (ht : t < n) : hotF n v t n < n ∧ ordF n v (hotF n v t n) = t ∧ ∀ i, i < n → ordF n v i = t → i = hotF n v t n := by
  obtain ⟨i, h1, h2⟩ := pig n (ordF n v) (fun i hi => ordF_lt hi) (fun i j hi hj h => ordF_inj hi hj h) t ht
  have e : hotF n v t n = i := hot_go (Nat.le_refl _) (by omega) h1 h2 (fun j _ hj q => absurd (ordF_inj (by omega) h1 (q.trans h2.symm)) (by omega))
  rw [e]
  exact ⟨h1, h2, fun j hj q => ordF_inj hj h1 (q.trans h2.symm)⟩
theorem hot_lt {n : Nat} {v : Nat → Int32} {t : Nat} (hn : 0 < n) : ∀ {k : Nat}, k ≤ n → hotF n v t k < n
  | 0, _ => hn
  | k + 1, hk => by
    simp only [hotF]
    split
    · omega
    · exact hot_lt hn (by omega)
theorem wkP_lt {n : Nat} {v : Nat → Int32} : ∀ {t : Nat}, 0 < n → wkP n v t < n
  | 0, h => h
  | _ + 1, h => hot_lt h (Nat.le_refl _)
theorem bit_is : ∀ set, set < 64 → ∀ h, h < 6 → ((nI set >>> (nI h &&& 31)) &&& nI 1 = nI 1 ↔ set.testBit h = true) := by decide +kernel
theorem ff_f_at {v : Nat → Int32} {x : Int32} {k i j : Nat} (h : ¬ v k = x) (hj : j = k + 1) : ff (hwP v x) k (i + 1) = ff (hwP v x) j i := by
  rw [hj]
  exact ff_f (decide_eq_false h)
theorem numOn_now {kd ag pa : Nat → Int32} {td : Nat} : (fun h => numOn kd ag pa td h td) = nmF kd ag := by
  funext h
  unfold numOn ageOn nmF
  rw [if_pos rfl]
theorem hwF_now {n : Nat} {kd ag pa : Nat → Int32} {td : Nat} {x : Int32} : hwF n (fun h => numOn kd ag pa td h td) x = hwF n (nmF kd ag) x := by rw [numOn_now]
theorem al_t {p : Nat → Bool} {k : Nat} (h1 : al p k = true) (h2 : p k = true) : al p (k + 1) = true := by simp [al, h1, h2]
theorem al_f1 {p : Nat → Bool} {k : Nat} (h : ¬ al p k = true) : ¬ al p (k + 1) = true := fun q => h (by simp only [al, Bool.and_eq_true] at q; exact q.1)
theorem al_f2 {p : Nat → Bool} {k : Nat} (h : ¬ p k = true) : ¬ al p (k + 1) = true := fun q => h (by simp only [al, Bool.and_eq_true] at q; exact q.2)
theorem cr_cn {p : Nat → Bool} : ∀ (n lo : Nat), cn p (lo + n) = cn p lo + cr p lo n
  | 0, lo => rfl
  | n + 1, lo => by
    have h := cr_cn (p := p) n (lo + 1)
    rw [show lo + (n + 1) = (lo + 1) + n by omega, h]
    simp only [cn, cr]
    omega
theorem cr_0 {p : Nat → Bool} {n : Nat} : cr p 0 n = cn p n := by
  have h := cr_cn (p := p) n 0
  rw [Nat.zero_add] at h
  rw [h]
  simp [cn]
theorem abt_ok {n : Nat} {kd ag bo dm dn : Nat → Int32} {nd j w : Nat} (hj : j < n) (hn : n ≤ 6) (hw : w ≤ 5) : abtF n kd ag bo dm dn nd (nI j) (nI w) = abF n kd ag bo dm dn nd j w := by
  unfold abtF
  rw [if_pos (hIn_nI hj (by omega)), if_pos (x_in_nI hw (by omega)), nI_clamp (by omega), nI_clamp (by omega)]
theorem abt_1 {n : Nat} {kd ag bo dm dn : Nat → Int32} {nd : Nat} {x w : Int32} (h : ¬ hIn n x) : abtF n kd ag bo dm dn nd x w = -101 := if_neg h
theorem abt_2 {n : Nat} {kd ag bo dm dn : Nat → Int32} {nd j : Nat} {w : Int32} (hj : j < n) (hn : n ≤ 6) (h : ¬ x_in w 5) : abtF n kd ag bo dm dn nd (nI j) w = -102 := by
  unfold abtF
  rw [if_pos (hIn_nI hj (by omega)), if_neg h]
theorem as_1 {n : Nat} {kd : Nat → Int32} {x k : Int32} (h : ¬ hIn n x) : asF n kd x k = -101 := if_neg h
theorem as_2 {n : Nat} {kd : Nat → Int32} {j : Nat} {k : Int32} (hj : j < n) (hn : n ≤ 6) (h : ¬ x_in k 4) : asF n kd (nI j) k = -102 := by
  unfold asF
  rw [if_pos (hIn_nI hj (by omega)), if_neg h]
theorem as_ok {n : Nat} {kd : Nat → Int32} {j : Nat} {k : Int32} (hj : j < n) (hn : n ≤ 6) (h : x_in k 4) : asF n kd (nI j) k = (if k = nI 0 ∨ kd j = k ∨ k = nI 2 ∧ kd j = nI 4 then nI j else -1) := by
  unfold asF
  rw [if_pos (hIn_nI hj (by omega)), if_pos h, nI_clamp (by omega)]
theorem th_ok {n td : Nat} {kd ag pa : Nat → Int32} {j d : Nat} (hj : j < n) (hn : n ≤ 6) (hd : d ≤ td) (ht : td ≤ 30) : thF n td kd ag pa (nI j) (nI d) = numOn kd ag pa td j d := by
  unfold thF
  rw [if_pos ⟨hIn_nI hj (by omega), Nat.lt_of_le_of_lt (Nat.zero_le _) hj, x_in_nI hd (by omega)⟩, nI_clamp (by omega), nI_clamp (by omega)]
theorem go_ok {n td : Nat} {kd ag pa : Nat → Int32} {x : Int32} {d : Nat} (hn : 0 < n) (hd : d ≤ td) (ht : td ≤ 30) : goF n td kd ag pa x (nI d) = hwF n (fun h => numOn kd ag pa td h d) x := by
  unfold goF
  rw [if_pos ⟨hn, x_in_nI hd (by omega)⟩, nI_clamp (by omega)]
theorem whn_ok {n : Nat} {kd ag : Nat → Int32} {j : Nat} {y : Int32} (hj : j < n) (hn : n ≤ 6) : whnF n kd ag (nI j) y = whF (kd j) (ag j) y := by
  unfold whnF
  rw [if_pos (hIn_nI hj (by omega)), nI_clamp (by omega)]
theorem cnt_ok {n td : Nat} {bs : Int32} {kd ag dm dn : Nat → Int32} {nd nh pl st w : Nat} (hw : w ≤ 9) : cntF n td bs kd ag dm dn nd nh pl st (nI w) = hmF n td bs kd ag dm dn nd nh pl st w := by
  unfold cntF
  rw [if_pos (x_in_nI hw (by omega)), nI_clamp (by omega)]
theorem woP_le {cb : Nat → Bool} {v : Nat → Int32} {td a : Nat} : woP cb v td a ≤ td + 1 := by
  unfold woP
  split
  · exact cn_le _ _
  · omega
theorem mwo_le {cb : Nat → Bool} {v : Nat → Int32} {td n : Nat} : mxF (woP cb v td) n ≤ td + 1 := mxF_le (fun _ _ => woP_le)
theorem woF_le {cb : Nat → Bool} {v : Nat → Int32} {td : Nat} : woF cb v td ≤ td + 1 := mwo_le
theorem asL_le {w : Nat → Nat} {f0 : Nat} : ∀ {h : Nat}, asL w f0 h ≤ f0
  | 0 => Nat.le_refl _
  | h + 1 => by
    have := asL_le (w := w) (f0 := f0) (h := h)
    simp only [asL]
    split <;> omega
theorem f0F_le {cb : Nat → Bool} {td : Nat} : f0F cb td ≤ 268435456 := by
  unfold f0F
  split <;> omega
theorem bit_n : ∀ set, set < 64 → ∀ h, h < 6 → (nI set >>> (nI h &&& 31)) &&& nI 1 = nI (if set.testBit h = true then 1 else 0) := by decide +kernel
theorem dg_iff {c : Nat} (h : c ≤ 126) : (nI 0 ≤ nI c - nI 48 ∧ nI c - nI 48 ≤ nI 9) ↔ 48 ≤ c ∧ c ≤ 57 := by
  by_cases h1 : c < 48
  · have := pk_sneg (a := c) (b := 48) (by omega) h1
    exact ⟨fun q => absurd this (Int32.not_lt.mpr q.1), fun q => by omega⟩
  · rw [pk_sub (by omega)]
    refine ⟨fun q => ?_, fun q => ⟨nI_pos' (by omega), nI_le (by omega) (by omega)⟩⟩
    have := (nI_leI (a := c - 48) (b := 9) (by omega) (by omega)).mp q.2
    omega
theorem fz_go {p : Nat → Bool} : ∀ {n lo k : Nat}, lo ≤ k → k < lo + n → (∀ j, lo ≤ j → j < k → p j = true) → p k = false → fz p lo n = k
  | 0, lo, k, h1, h2, _, _ => by omega
  | n + 1, lo, k, h1, h2, h3, h4 => by
    simp only [fz]
    by_cases h : lo = k
    · subst h
      rw [if_neg (by rw [h4]; decide)]
    · rw [if_pos (h3 lo (Nat.le_refl _) (by omega))]
      exact fz_go (by omega) (by omega) (fun j a b => h3 j (by omega) b) h4
theorem fz_all {p : Nat → Bool} : ∀ {n lo : Nat}, (∀ j, lo ≤ j → j < lo + n → p j = true) → fz p lo n = lo + n
  | 0, lo, _ => rfl
  | n + 1, lo, h => by
    simp only [fz]
    rw [if_pos (h lo (Nat.le_refl _) (by omega)), fz_all (fun j a b => h j (by omega) (by omega))]
    omega
theorem fz_le {p : Nat → Bool} : ∀ {n lo : Nat}, fz p lo n ≤ lo + n
  | 0, lo => Nat.le_refl _
  | n + 1, lo => by
    have := fz_le (p := p) (n := n) (lo := lo + 1)
    simp only [fz]
    split <;> omega
theorem fz_c {p q : Nat → Bool} : ∀ {n lo : Nat}, (∀ j, lo ≤ j → j < lo + n → p j = q j) → fz p lo n = fz q lo n
  | 0, _, _ => rfl
  | n + 1, lo, h => by
    simp only [fz]
    rw [h lo (Nat.le_refl _) (by omega), fz_c (n := n) (lo := lo + 1) (fun j a b => h j (by omega) (by omega))]
/-- the reference's letters and the class's stop at one place -/
theorem fz_gd {pg : Nat → Int32} {pl : Nat} : fz (gdM pg) 0 pl = ftF pg pl := by
  have agree : ∀ j, j < 17 → gdM pg j = gdX j (pg j).toNatClampNeg := by
    intro j hj
    unfold gdM gdX
    rw [decide_eq_true hj, Bool.true_and]
    by_cases h0 : j % 3 = 0
    · rw [if_pos h0, if_pos h0]
    · rw [if_neg h0, if_neg h0]
      by_cases h1 : j % 3 = 1
      · rw [if_pos h1, if_pos h1]
      · rw [if_neg h1, if_neg h1]
        simp [hj]
  unfold ftF
  by_cases hall : ∀ j, j < 17 → j < pl → gdM pg j = true
  · by_cases hpl : pl ≤ 17
    · exact fz_c (fun j _ h => agree j (by omega))
    · have m17 : gdM pg 17 = false := by
        unfold gdM
        rw [if_neg (by decide), if_neg (by decide)]
        exact decide_eq_false (fun q => absurd q.2 (by decide))
      have x17 : gdX 17 (pg 17).toNatClampNeg = false := by
        unfold gdX
        simp
      rw [fz_go (p := gdM pg) (k := 17) (by omega) (by omega) (fun j _ h => hall j h (by omega)) m17, fz_go (p := fun k => gdX k (pg k).toNatClampNeg) (k := 17) (by omega) (by omega) (fun j _ h => by rw [← agree j h]; exact hall j h (by omega)) x17]
  · have hex : ∃ k, k < 17 ∧ k < pl ∧ gdM pg k = false ∧ ∀ j, j < k → gdM pg j = true := by
      have key : ∀ m, m ≤ 17 → m ≤ pl → (∀ j, j < m → gdM pg j = true) ∨ ∃ k, k < 17 ∧ k < pl ∧ gdM pg k = false ∧ ∀ j, j < k → gdM pg j = true := by
        intro m
        induction m with
        | zero => intro _ _; exact Or.inl (fun j h => by omega)
        | succ m ih =>
          intro h1 h2
          rcases ih (by omega) (by omega) with h | h
          · by_cases hm : gdM pg m = true
            · refine Or.inl (fun j hj => ?_)
              by_cases hjm : j = m
              · rw [hjm]; exact hm
              · exact h j (by omega)
            · exact Or.inr ⟨m, by omega, by omega, Bool.eq_false_iff.mpr hm, h⟩
          · exact Or.inr h
      rcases key (min 17 pl) (Nat.min_le_left _ _) (Nat.min_le_right _ _) with h | h
      · exact absurd (fun j a b => h j (by omega)) hall
      · exact h
    obtain ⟨k, h1, h2, h3, h4⟩ := hex
    rw [fz_go (p := gdM pg) (k := k) (by omega) (by omega) (fun j _ h => h4 j h) h3, fz_go (p := fun k => gdX k (pg k).toNatClampNeg) (k := k) (by omega) (by omega) (fun j _ h => by rw [← agree j (by omega)]; exact h4 j h) (by rw [← agree k h1]; exact h3)]
theorem mxF_1 {f : Nat → Nat} {k : Nat} (h : f k ≤ mxF f k) : mxF f (k + 1) = mxF f k := Nat.max_eq_left h
theorem mxF_2 {f : Nat → Nat} {k x : Nat} (e : f k = x) (h : mxF f k < x) : mxF f (k + 1) = x := by
  rw [← e] at h ⊢
  exact Nat.max_eq_right (Nat.le_of_lt h)
theorem dyE1 {cb : Nat → Bool} {td i k : Nat} (ek : td + 1 - i = k + 1) (h : ¬ cb k = true) : cr cb (td + 1 - (i + 1)) (i + 1) = cr cb (td + 1 - i) i + 0 := by
  rw [show td + 1 - (i + 1) = k by omega, ek]
  simp only [cr]
  rw [if_neg h]
theorem dyE2 {cb : Nat → Bool} {td i k : Nat} (ek : td + 1 - i = k + 1) (h : cb k = true) : cr cb (td + 1 - (i + 1)) (i + 1) = cr cb (td + 1 - i) i + 1 := by
  rw [show td + 1 - (i + 1) = k by omega, ek]
  simp only [cr]
  rw [if_pos h]
theorem dyE3 {cb : Nat → Bool} {td i k : Nat} (ek : td + 1 - i = k + 1) (h : ¬ cb k = true) : ff cb (td + 1 - (i + 1)) (i + 1) = ff cb (td + 1 - i) i := by
  rw [show td + 1 - (i + 1) = k by omega, ek]
  exact ff_f (Bool.eq_false_iff.mpr h)
theorem dyE4 {cb : Nat → Bool} {td i k : Nat} (ek : td + 1 - i = k + 1) (h : cb k = true) : ff cb (td + 1 - (i + 1)) (i + 1) = nI k := by
  rw [show td + 1 - (i + 1) = k by omega]
  exact ff_t h
theorem woP_t {cb : Nat → Bool} {v : Nat → Int32} {td a : Nat} (h : cb a = true) : woP cb v td a = cn (woQ cb v a) (td + 1) := if_pos h
theorem woP_f {cb : Nat → Bool} {v : Nat → Int32} {td a : Nat} (h : ¬ cb a = true) : woP cb v td a = 0 := if_neg h
theorem gdM_0 {pg : Nat → Int32} {k : Nat} (h : k % 3 = 0) : gdM pg k = !decide (kindF (pg k).toNatClampNeg = -1) := by unfold gdM; rw [if_pos h]
theorem gdM_1 {pg : Nat → Int32} {k : Nat} (h : k % 3 = 1) : gdM pg k = decide (48 ≤ (pg k).toNatClampNeg ∧ (pg k).toNatClampNeg ≤ 57) := by unfold gdM; rw [if_neg (by omega), if_pos h]
theorem gdM_2 {pg : Nat → Int32} {k : Nat} (h : ¬ k % 3 = 0) (h1 : ¬ k % 3 = 1) : gdM pg k = decide ((pg k).toNatClampNeg = 44 ∧ k < 17) := by unfold gdM; rw [if_neg h, if_neg h1]
theorem asB_1 {w : Nat → Nat} {f0 i x : Nat} (e : w i = x) (h : asL w f0 i ≤ x) : asB w f0 (i + 1) = asB w f0 i := by
  simp only [asB]
  rw [e, if_neg (by omega)]
theorem asB_2 {w : Nat → Nat} {f0 i x : Nat} (e : w i = x) (h : x < asL w f0 i) : asB w f0 (i + 1) = nI i := by
  simp only [asB]
  rw [e, if_pos h]
theorem asL_1 {w : Nat → Nat} {f0 i x : Nat} (e : w i = x) (h : asL w f0 i ≤ x) : asL w f0 (i + 1) = asL w f0 i := by
  simp only [asL]
  rw [e, if_neg (by omega)]
theorem asL_2 {w : Nat → Nat} {f0 i x : Nat} (e : w i = x) (h : x < asL w f0 i) : asL w f0 (i + 1) = x := by
  simp only [asL]
  rw [e, if_pos h]
end
section
/-! ===== what calls do to the state, in numbers ===== -/
theorem by_of {x : Int32} {lo hi : Nat} (h : nI lo ≤ x ∧ x ≤ nI hi) (hl : lo < 2147483648) (hh : hi < 2147483647) : ∃ c : Nat, lo ≤ c ∧ c ≤ hi ∧ x = nI c := by
  obtain ⟨c, hc, rfl⟩ := x_in_of (x := x) (k := hi) ⟨Int32.le_trans (nI_le (Nat.zero_le lo) hl) h.1, h.2⟩ hh
  exact ⟨c, (nI_leI hl (by omega)).mp h.1, hc, rfl⟩
theorem by_nI {c lo hi : Nat} (h1 : lo ≤ c) (h2 : c ≤ hi) (hh : hi < 2147483648) : nI lo ≤ nI c ∧ nI c ≤ nI hi := ⟨nI_le h1 (by omega), nI_le h2 hh⟩
def letF (pg : Nat → Int32) (pl : Nat) (x : Int32) : Int32 × (Nat → Int32) × Nat := if nI 32 ≤ x ∧ x ≤ nI 126 then (if pl = 19 then (-104, pg, pl) else (nI (pl + 1), upd pg pl x, pl + 1)) else (-102, pg, pl)
theorem byte_ok : ∀ c, c ≤ 126 → vp_nar .byte ((nI c).toInt8.toInt32) = nI c := by
  intro c hc
  rw [vp_nar_byte]
  revert c
  decide +kernel
theorem bear_t {n : Nat} {kd ag : Nat → Int32} {h : Nat} (q : lendF n kd h) : bearF n kd ag h = upd (upd ag h (nI 0)) (h + 1) (nI 0) := if_pos q
theorem bear_f {n : Nat} {kd ag : Nat → Int32} {h : Nat} (q : ¬ lendF n kd h) : bearF n kd ag h = upd ag h (nI 0) := if_neg q
theorem gro_0 {kd ag : Nat → Int32} : groF kd ag 0 = ag := by funext j; simp [groF]
theorem gro_at {kd ag : Nat → Int32} {i : Nat} : groF kd ag i i = ag i := if_neg (Nat.lt_irrefl i)
theorem gro_s {kd ag : Nat → Int32} {i : Nat} {x : Int32} (h : x = nxF (kd i) (ag i)) : upd (groF kd ag i) i x = groF kd ag (i + 1) := by
  funext j
  unfold upd groF
  by_cases hj : j = i
  · rw [if_pos hj, if_pos (by omega), hj, h]
  · rw [if_neg hj]
    by_cases h1 : j < i
    · rw [if_pos h1, if_pos (by omega)]
    · rw [if_neg h1, if_neg (by omega)]
theorem gro_s1 {kd ag : Nat → Int32} {i : Nat} (h : kd i = nI 4) : upd (groF kd ag i) i (groF kd ag i i + nI 0) = groF kd ag (i + 1) :=
  gro_s (by rw [gro_at]; unfold nxF; rw [if_pos h]; exact Int32.add_zero _)
theorem gro_s2 {kd ag : Nat → Int32} {i : Nat} (h : ¬ kd i = nI 4) : upd (groF kd ag i) i (groF kd ag i i + nI 1) = groF kd ag (i + 1) :=
  gro_s (by rw [gro_at]; unfold nxF; rw [if_neg h])
/-- the births in houses -/
def bornF (n : Nat) (kd bo : Nat → Int32) (h : Nat) : Nat → Int32 := if lendF n kd h then upd (upd bo h (bo h + nI 1)) (h + 1) (bo (h + 1) + nI 1) else upd bo h (bo h + nI 1)
theorem born_t {n : Nat} {kd bo : Nat → Int32} {h : Nat} (q : lendF n kd h) : bornF n kd bo h = upd (upd bo h (bo h + nI 1)) (h + 1) (upd bo h (bo h + nI 1) (h + 1) + nI 1) := by
  unfold bornF
  rw [if_pos q, show upd bo h (bo h + nI 1) (h + 1) = bo (h + 1) from if_neg (by omega)]
theorem born_f {n : Nat} {kd bo : Nat → Int32} {h : Nat} (q : ¬ lendF n kd h) : bornF n kd bo h = upd bo h (bo h + nI 1) := if_neg q
def birF (n : Nat) (kd ag bo : Nat → Int32) (bs x : Int32) : Int32 × (Nat → Int32) × (Nat → Int32) × Int32 :=
  if hIn n x then (if mayB (kd x.toNatClampNeg) then ((if lendF n kd x.toNatClampNeg then nI 2 else nI 1), bearF n kd ag x.toNatClampNeg, bornF n kd bo x.toNatClampNeg, bs + nI 1) else (-103, ag, bo, bs)) else (-101, ag, bo, bs)
theorem bir_ok {n : Nat} {kd ag bo : Nat → Int32} {bs : Int32} {j : Nat} (hj : j < n) (hn : n ≤ 6) (h : mayB (kd j)) : birF n kd ag bo bs (nI j) = ((if lendF n kd j then nI 2 else nI 1), bearF n kd ag j, bornF n kd bo j, bs + nI 1) := by
  unfold birF
  rw [nI_clamp (by omega), if_pos (hIn_nI hj (by omega)), if_pos h]
theorem bir_1 {n : Nat} {kd ag bo : Nat → Int32} {bs x : Int32} (h : ¬ hIn n x) : birF n kd ag bo bs x = (-101, ag, bo, bs) := if_neg h
theorem bir_2 {n : Nat} {kd ag bo : Nat → Int32} {bs : Int32} {j : Nat} (hj : j < n) (hn : n ≤ 6) (h : ¬ mayB (kd j)) : birF n kd ag bo bs (nI j) = (-103, ag, bo, bs) := by
  unfold birF
  rw [nI_clamp (by omega), if_pos (hIn_nI hj (by omega)), if_neg h]
/-- the ages of day td, kept -/
def paF (ag pa : Nat → Int32) (td i : Nat) : Nat → Int32 := fun q => if 6 * td ≤ q ∧ q < 6 * td + i then ag (q - 6 * td) else pa q
theorem pa_0 {ag pa : Nat → Int32} {td : Nat} : paF ag pa td 0 = pa := by
  funext q
  exact if_neg (by omega)
theorem pa_s {ag pa : Nat → Int32} {td i q : Nat} (hq : q = 6 * td + i) : upd (paF ag pa td i) q (ag i) = paF ag pa td (i + 1) := by
  subst hq
  funext q
  unfold upd paF
  by_cases hj : q = 6 * td + i
  · rw [if_pos hj, if_pos (by omega), hj, show 6 * td + i - 6 * td = i by omega]
  · rw [if_neg hj]
    by_cases h1 : 6 * td ≤ q ∧ q < 6 * td + i
    · rw [if_pos h1, if_pos (by omega)]
    · rw [if_neg h1, if_neg (by omega)]
def dayF (n td : Nat) (kd ag pa : Nat → Int32) : Int32 × (Nat → Int32) × (Nat → Int32) × Nat := if n = 0 then (-103, ag, pa, td) else if td = 30 then (-104, ag, pa, td) else (nI (td + 1), groF kd ag n, paF ag pa td n, td + 1)
def debF (n nd : Nat) (dm dn : Nat → Int32) (x y : Int32) : Int32 × (Nat → Int32) × (Nat → Int32) × Nat :=
  if (nI 1 ≤ x ∧ x ≤ nI 9) ∧ x_in y 99 then (if n = 0 then (-103, dm, dn, nd) else if nd = 6 then (-104, dm, dn, nd) else (nI (nd + 1), upd dm nd x, upd dn nd y, nd + 1)) else (-102, dm, dn, nd)
def heaF (n nh : Nat) (hh hn : Nat → Int32) (x y : Int32) : Int32 × (Nat → Int32) × (Nat → Int32) × Nat :=
  if hIn n x then (if x_in y 99 then (if nh = 6 then (-104, hh, hn, nh) else (nI (nh + 1), upd hh nh x, upd hn nh y, nh + 1)) else (-102, hh, hn, nh)) else (-101, hh, hn, nh)
/-- births in the houses of a set below h -/
def brS (n : Nat) (kd ag : Nat → Int32) (set : Nat) : Nat → (Nat → Int32)
  | 0 => ag
  | h + 1 => if set.testBit h = true then bearF n kd (brS n kd ag set h) h else brS n kd ag set h
def nbP (kd : Nat → Int32) (set h : Nat) : Bool := !set.testBit h || decide (mayB (kd h))
def nbV (n : Nat) (kd ag : Nat → Int32) (set : Nat) : Int32 := sm (nmF kd (brS n kd ag set n)) n
def nbR (n : Nat) (kd ag : Nat → Int32) (set : Nat) : Int32 := if al (nbP kd set) n = true then nbV n kd ag set else (268435456 : Int32)
def fwP (s : Nat) : Option Nat → Bool
  | none => true
  | some b => decide (popF s < popF b)
def bst (n : Nat) (kd ag : Nat → Int32) (x : Int32) : Nat → Option Nat
  | 0 => none
  | s + 1 => if fwP s (bst n kd ag x s) = true ∧ al (nbP kd s) n = true ∧ nbV n kd ag s ≤ x then some s else bst n kd ag x s
def o2i : Option Nat → Int32
  | none => -1
  | some b => nI b
theorem bst_lt {n : Nat} {kd ag : Nat → Int32} {x : Int32} : ∀ {s b : Nat}, bst n kd ag x s = some b → b < s
  | 0, b, h => by cases h
  | s + 1, b, h => by
    simp only [bst] at h
    split at h
    · cases h; omega
    · have := bst_lt (s := s) h; omega
theorem bst_t {n : Nat} {kd ag : Nat → Int32} {x : Int32} {s : Nat} (h1 : fwP s (bst n kd ag x s) = true) (h2 : al (nbP kd s) n = true) (h3 : nbV n kd ag s ≤ x) : bst n kd ag x (s + 1) = some s := if_pos ⟨h1, h2, h3⟩
theorem bst_f {n : Nat} {kd ag : Nat → Int32} {x : Int32} {s : Nat} (h : ¬ (fwP s (bst n kd ag x s) = true ∧ al (nbP kd s) n = true ∧ nbV n kd ag s ≤ x)) : bst n kd ag x (s + 1) = bst n kd ag x s := if_neg h
theorem o2i_ne {o : Option Nat} (h : ¬ o2i o = -1) : ∃ b, o = some b := by
  cases o with
  | none => exact absurd rfl h
  | some b => exact ⟨b, rfl⟩
theorem o2i_eq {o : Option Nat} (h : o2i o = -1) (hb : ∀ b, o = some b → b < 2147483648) : o = none := by
  cases o with
  | none => rfl
  | some b =>
    have h2 : nI b = -1 := h
    have h3 := nI_pos' (n := b) (hb b rfl)
    rw [h2] at h3
    exact absurd h3 (by decide)
def chN (n : Nat) (kd ag : Nat → Int32) (x w : Int32) : Int32 := match bst n kd ag x (2 ^ n) with
  | none => -1
  | some b => if w = nI 1 then nI b else nI (popF b)
def chF (n : Nat) (kd ag : Nat → Int32) (x w : Int32) : Int32 := if x_in x 400 ∧ x_in w 1 then (if n = 0 then -103 else chN n kd ag x w) else -102
theorem shl_n : ∀ n, n ≤ 6 → nI 1 <<< (nI n &&& 31) = nI (2 ^ n) := by decide +kernel
theorem two_n {n : Nat} (h : n ≤ 6) : 2 ^ n ≤ 64 := by
  have := Nat.pow_le_pow_right (show 0 < 2 by decide) h
  omega
/-- draws -/
def sdF (z : Nat) : Nat := (1103515245 * z + 12345) % 2147483648
def drF (n z : Nat) : Nat := z / 65536 % n
theorem lN_m31 (a : Nat) : lN a &&& (2147483647 : Int64) = lN (a % 2147483648) := by
  have key : ∀ x y : Int64, x.toBitVec = y.toBitVec → x = y := fun x y h => Int64.toBitVec_inj.mp h
  apply key
  rw [Int64.toBitVec_and]
  show BitVec.ofNat 64 a &&& BitVec.ofNat 64 2147483647 = BitVec.ofNat 64 (a % 2147483648)
  apply BitVec.eq_of_toNat_eq
  rw [BitVec.toNat_and, BitVec.toNat_ofNat, BitVec.toNat_ofNat, BitVec.toNat_ofNat]
  rw [show 2147483647 % 2 ^ 64 = 2 ^ 31 - 1 from rfl, Nat.and_two_pow_sub_one_eq_mod]
  omega
theorem sd_l (z : Nat) : ((1103515245 : Int64) * lN z + (12345 : Int64)) &&& (2147483647 : Int64) = lN (sdF z) := by
  rw [show (1103515245 : Int64) = lN 1103515245 from rfl, show (12345 : Int64) = lN 12345 from rfl, lN_mul, lN_add, lN_m31]
  rfl
theorem sdF_lt (z : Nat) : sdF z < 2147483648 := Nat.mod_lt _ (by decide)
theorem dr_l {n z : Nat} (hz : z < 2147483648) (hn : 0 < n) (hn6 : n ≤ 6) : (lN z / (65536 : Int64) - lN z / (65536 : Int64) / (nI n).toInt64 * (nI n).toInt64).toInt32 = nI (drF n z) := by
  rw [show (65536 : Int64) = lN 65536 from rfl, pk_lDiv (by omega) (by omega) (by omega), nI_l (by omega), pk_lRem (by omega) hn (by omega), lN_i]
  rfl
theorem drF_lt {n z : Nat} (hn : 0 < n) : drF n z < n := Nat.mod_lt _ hn
def ySd (z : Nat) : Nat → Nat
  | 0 => z
  | i + 1 => sdF (ySd z i)
theorem ySd_lt {z : Nat} (hz : z < 2147483648) : ∀ {i : Nat}, ySd z i < 2147483648
  | 0 => hz
  | _ + 1 => sdF_lt _
def yB (n : Nat) (kd ag : Nat → Int32) (h : Nat) : Nat → Int32 := if mayB (kd h) then bearF n kd ag h else ag
def yAg (n : Nat) (kd ag : Nat → Int32) (z : Nat) : Nat → (Nat → Int32)
  | 0 => ag
  | i + 1 => groF kd (yB n kd (yAg n kd ag z i) (drF n (ySd z (i + 1)))) n
def yFar (n : Nat) (kd ag : Nat → Int32) (z : Nat) : Nat → Nat
  | 0 => 0
  | i + 1 => yFar n kd ag z i + wkF n (nmF kd (yB n kd (yAg n kd ag z i) (drF n (ySd z (i + 1))))) n
def yrN (n : Nat) (kd ag : Nat → Int32) (k z : Nat) (w : Int32) : Int32 := if w = nI 0 then nI (yFar n kd ag z k) else if w = nI 1 then sm (nmF kd (yAg n kd ag z k)) n else nI (ySd z k)
def yrF (n : Nat) (kd ag : Nat → Int32) (k x w : Int32) : Int32 := if (nI 1 ≤ k ∧ k ≤ nI 60) ∧ 0 ≤ x ∧ x_in w 2 then (if n = 0 then -103 else yrN n kd ag k.toNatClampNeg x.toNatClampNeg w) else -102
theorem al_sk {p : Nat → Bool} {k : Nat} (h : p k = true) : al p (k + 1) = true ↔ al p k = true := by
  simp [al, h]
theorem nbP_o {kd : Nat → Int32} {set h : Nat} (q : ¬ biS set h) : nbP kd set h = true := by
  unfold nbP
  rw [Bool.eq_false_iff.mpr q]
  rfl
theorem nbP_f {kd : Nat → Int32} {set h : Nat} (q : biS set h) (r : ¬ mayB (kd h)) : ¬ nbP kd set h = true := by
  unfold nbP
  rw [q, decide_eq_false r]
  decide
theorem nbP_t {kd : Nat → Int32} {set h : Nat} (r : mayB (kd h)) : nbP kd set h = true := by
  unfold nbP
  rw [decide_eq_true r, Bool.or_true]
theorem brS_f {n : Nat} {kd ag : Nat → Int32} {set h : Nat} (q : ¬ biS set h) : brS n kd ag set (h + 1) = brS n kd ag set h := if_neg q
theorem brS_t {n : Nat} {kd ag : Nat → Int32} {set h : Nat} (q : biS set h) : brS n kd ag set (h + 1) = bearF n kd (brS n kd ag set h) h := if_pos q
theorem nbR_ok {n : Nat} {kd ag : Nat → Int32} {x : Int32} {i : Nat} (hx : x ≤ nI 400) : ¬ x < nbR n kd ag i ↔ (al (nbP kd i) n = true ∧ nbV n kd ag i ≤ x) := by
  unfold nbR
  by_cases h : al (nbP kd i) n = true
  · rw [if_pos h]
    exact ⟨fun q => ⟨h, Int32.not_lt.mp q⟩, fun q => Int32.not_lt.mpr q.2⟩
  · rw [if_neg h]
    refine ⟨fun q => absurd ?_ q, fun q => absurd q.1 h⟩
    exact Int32.lt_of_le_of_lt hx (by decide)
theorem fw_n {s : Nat} {o : Option Nat} (h : o = none) : fwP s o = true := by rw [h]; rfl
theorem fw_s {s b : Nat} {o : Option Nat} (e : o = some b) (h : fwP s o = true) : popF s < popF b := by
  rw [e] at h
  exact of_decide_eq_true h
theorem fw_t {s b : Nat} {o : Option Nat} (e : o = some b) (h : popF s < popF b) : fwP s o = true := by
  rw [e]
  exact decide_eq_true h
theorem chN_n {n : Nat} {kd ag : Nat → Int32} {x w : Int32} (h : bst n kd ag x (2 ^ n) = none) : chN n kd ag x w = -1 := by
  unfold chN
  rw [h]
theorem chN_s {n : Nat} {kd ag : Nat → Int32} {x w : Int32} {b : Nat} (h : bst n kd ag x (2 ^ n) = some b) : chN n kd ag x w = if w = nI 1 then nI b else nI (popF b) := by
  unfold chN
  rw [h]
theorem l_ne0 : ∀ d, 0 < d → d ≤ 6 → ¬ (nI d).toInt64 = 0 := by
  intro d h0 h6
  have : ∀ d, d < 7 → 0 < d → ¬ (nI d).toInt64 = 0 := by decide +kernel
  exact this d (by omega) h0
theorem yrF_ok {n : Nat} {kd ag : Nat → Int32} {k z : Nat} {w : Int32} (h : nI 1 ≤ nI k ∧ nI k ≤ nI 60) (hk : k ≤ 60) (hz : z < 2147483648) (hw : x_in w 2) : yrF n kd ag (nI k) (nI z) w = if n = 0 then -103 else yrN n kd ag k z w := by
  unfold yrF
  rw [if_pos ⟨h, nI_pos' hz, hw⟩, nI_clamp (by omega), nI_clamp hz]
/-- the street of a page -/
def stK (pg : Nat → Int32) (h : Nat) : Int32 := kindF (pg (3 * h)).toNatClampNeg
def stA (pg : Nat → Int32) (h : Nat) : Int32 := pg (3 * h + 1) - nI 48
abbrev stOK (pg : Nat → Int32) (pl : Nat) : Prop := 5 ≤ pl ∧ pl % 3 = 2 ∧ ftF pg pl = pl
theorem fz_ok {p : Nat → Bool} : ∀ {n lo : Nat}, fz p lo n = lo + n → ∀ j, lo ≤ j → j < lo + n → p j = true
  | 0, lo, _, j, h1, h2 => by omega
  | n + 1, lo, h, j, h1, h2 => by
    simp only [fz] at h
    by_cases hp : p lo = true
    · rw [if_pos hp] at h
      by_cases hj : j = lo
      · rw [hj]; exact hp
      · exact fz_ok (n := n) (lo := lo + 1) (by omega) j (by omega) (by omega)
    · rw [if_neg hp] at h
      omega
theorem ft_ok {pg : Nat → Int32} {pl : Nat} (h : ftF pg pl = pl) : ∀ k, k < pl → gdX k (pg k).toNatClampNeg = true := fun k hk => fz_ok (p := fun k => gdX k (pg k).toNatClampNeg) (lo := 0) (n := pl) (by unfold ftF at h; omega) k (Nat.zero_le _) (by omega)
theorem ft_17 {pg : Nat → Int32} {pl : Nat} (h : ftF pg pl = pl) : pl ≤ 17 := by
  apply Classical.byContradiction
  intro q
  have h1 := ft_ok h 17 (by omega)
  unfold gdX at h1
  simp at h1
/-- digest -/
def mx (h v : Int64) : Int64 := (31 : Int64) * h + v
def mxL (f : Nat → Int64) (h : Int64) : Nat → Int64
  | 0 => h
  | k + 1 => mx (mxL f h k) (f k)
theorem mxL_c {f g : Nat → Int64} {h : Int64} : ∀ {k : Nat}, (∀ j, j < k → f j = g j) → mxL f h k = mxL g h k
  | 0, _ => rfl
  | k + 1, q => by
    simp only [mxL]
    rw [mxL_c (k := k) (fun j hj => q j (by omega)), q k (by omega)]
def mhF (n : Nat) (kd ag bo pa dm dn : Nat → Int32) (nd td j : Nat) (h : Int64) : Int64 := mxL (fun d => (numOn kd ag pa td j d).toInt64) (mxL (fun w => (abF n kd ag bo dm dn nd j w).toInt64) h 6) (td + 1)
def dgH (n : Nat) (kd ag bo pa dm dn : Nat → Int32) (nd td : Nat) : Nat → Int64
  | 0 => (1033 : Int64)
  | j + 1 => mhF n kd ag bo pa dm dn nd td j (dgH n kd ag bo pa dm dn nd td j)
def dgS (n : Nat) (kd ag pa : Nat → Int32) (td : Nat) (cb : Nat → Bool) (h : Int64) : Int64 := if n = 0 then h else
  mx (mx (mx (mx (mx (mx h (nI (wkF n (nmF kd ag) n)).toInt64) (chN n kd ag (nI 9) (nI 0)).toInt64) (chN n kd ag (nI 9) (nI 1)).toInt64) (dyF cb td (nI 0)).toInt64) (dyF cb td (nI 1)).toInt64) (askF n kd ag pa cb td).toInt64
def dgF (n td : Nat) (bs : Int32) (kd ag bo pa dm dn hh hn : Nat → Int32) (nd nh : Nat) (pg : Nat → Int32) (pl st : Nat) : Int64 :=
  mxL (fun w => (hmF n td bs kd ag dm dn nd nh pl st w).toInt64) (mxL (fun k => (pg k).toInt64) (dgS n kd ag pa td (cbF kd ag pa hh hn td nh) (dgH n kd ag bo pa dm dn nd td n)) pl) 10
theorem abF_c {n : Nat} {kd ag bo bo' dm dn : Nat → Int32} {nd h w : Nat} (e : bo h = bo' h) : abF n kd ag bo dm dn nd h w = abF n kd ag bo' dm dn nd h w := by
  unfold abF
  split <;> first | rfl | exact e
theorem dgH_c {n : Nat} {kd ag bo bo' pa dm dn : Nat → Int32} {nd td : Nat} : ∀ {j : Nat}, (∀ i, i < j → bo i = bo' i) → dgH n kd ag bo pa dm dn nd td j = dgH n kd ag bo' pa dm dn nd td j
  | 0, _ => rfl
  | j + 1, h => by
    simp only [dgH]
    rw [dgH_c (j := j) (fun i hi => h i (by omega))]
    unfold mhF
    rw [mxL_c (f := fun w => (abF n kd ag bo dm dn nd j w).toInt64) (g := fun w => (abF n kd ag bo' dm dn nd j w).toInt64) (fun w _ => congrArg Int32.toInt64 (abF_c (h j (by omega))))]
theorem dgF_c {n td : Nat} {bs : Int32} {kd ag bo bo' pa dm dn hh hn : Nat → Int32} {nd nh : Nat} {pg : Nat → Int32} {pl st : Nat} (h : ∀ i, i < n → bo i = bo' i) : dgF n td bs kd ag bo pa dm dn hh hn nd nh pg pl st = dgF n td bs kd ag bo' pa dm dn hh hn nd nh pg pl st := by
  unfold dgF
  rw [dgH_c h]
theorem dgS_0 {n : Nat} {kd ag pa : Nat → Int32} {td : Nat} {cb : Nat → Bool} {h : Int64} (e : n = 0) : dgS n kd ag pa td cb h = h := if_pos e
/-- of the class -/
abbrev isAF (k w : Int32) : Prop := w = nI 0 ∨ w = k ∨ (w = nI 2 ∧ k = nI 4)
theorem isA_2 {k : Int32} : isAF k (nI 2) ↔ (k = nI 2 ∨ k = nI 4) :=
  ⟨fun q => q.elim (fun h => absurd h (by decide)) (fun q => q.elim (fun h => Or.inl h.symm) (fun h => Or.inr h.2)), fun q => q.elim (fun h => Or.inr (Or.inl h.symm)) (fun h => Or.inr (Or.inr ⟨rfl, h⟩))⟩
theorem isA_3 {k : Int32} : isAF k (nI 3) ↔ k = nI 3 :=
  ⟨fun q => q.elim (fun h => absurd h (by decide)) (fun q => q.elim (fun h => h.symm) (fun h => absurd h.1 (by decide))), fun h => Or.inr (Or.inl h.symm)⟩
theorem yB_t {n : Nat} {kd ag : Nat → Int32} {h : Nat} (q : ¬ (kd h = nI 2 ∨ kd h = nI 4)) : yB n kd ag h = bearF n kd ag h := if_pos q
theorem yB_f {n : Nat} {kd ag : Nat → Int32} {h : Nat} (q : kd h = nI 2 ∨ kd h = nI 4) : yB n kd ag h = ag := if_neg (fun r => r q)
theorem hot_s {n : Nat} {v : Nat → Int32} {t i : Nat} (hi : i < n) : hotF n v t (n - i) = if ordF n v i = t then i else hotF n v t (n - (i + 1)) := by
  rw [show n - i = (n - (i + 1)) + 1 by omega]
  simp only [hotF]
  rw [show n - ((n - (i + 1)) + 1) = i by omega]
theorem abs_d {a b : Nat} (ha : a < 1000) (hb : b < 1000) : (if 0 ≤ nI a - nI b then nI a - nI b else 0 - (nI a - nI b)) = nI (dstF a b) := by
  unfold dstF
  by_cases h : b ≤ a
  · rw [pk_sub h, if_pos (nI_pos' (by omega))]
    by_cases h2 : b < a
    · rw [if_pos h2]
    · rw [if_neg h2, show a - b = b - a by omega]
  · have h1 := pk_sneg (a := a) (b := b) (by omega) (by omega)
    rw [if_neg (Int32.not_le.mpr h1), if_neg (by omega), ← pk_sub (show a ≤ b by omega)]
    rw [show (0 : Int32) - (nI a - nI b) = nI b - nI a from by rw [Int32.zero_sub, Int32.neg_sub]]
theorem sd_x (z : Nat) (hz : z < 2147483648) : ((1103515245 : Int64) * (nI z).toInt64 + (12345 : Int64) - ((1103515245 : Int64) * (nI z).toInt64 + (12345 : Int64)) / (2147483648 : Int64) * (2147483648 : Int64)).toInt32 = nI (sdF z) := by
  rw [nI_l hz, show (1103515245 : Int64) = lN 1103515245 from rfl, show (12345 : Int64) = lN 12345 from rfl, show (2147483648 : Int64) = lN 2147483648 from rfl, lN_mul, lN_add, pk_lRem (by omega) (by omega) (by omega), lN_i]
  rfl
theorem isA_s {k w : Int32} : (w = nI 0 ∨ k = w ∨ w = nI 2 ∧ k = nI 4) ↔ isAF k w := ⟨fun q => q.elim Or.inl (fun q => q.elim (fun h => Or.inr (Or.inl h.symm)) (fun h => Or.inr (Or.inr h))), fun q => q.elim Or.inl (fun q => q.elim (fun h => Or.inr (Or.inl h.symm)) (fun h => Or.inr (Or.inr h)))⟩
theorem agF_0 {k a : Int32} : agF k a 0 = a := by
  unfold agF
  split
  · rfl
  · exact Int32.add_zero a
theorem agF_s {k a : Int32} {i : Nat} : agF k a (i + 1) = nxF k (agF k a i) := by
  unfold agF nxF
  split
  · rfl
  · rw [nI_succ, ← Int32.add_assoc]; rfl
end
section
/-! ===== what the class's own helpers answer ===== -/
theorem bi_one {P : Prop} {_ : Decidable P} : bi P = nI 1 ↔ P := by
  by_cases h : P
  · rw [bi_t h]; exact ⟨fun _ => h, fun _ => rfl⟩
  · rw [bi_f h]; exact ⟨fun q => absurd q (by decide), fun q => absurd q h⟩
theorem one_of {w : Int32} (h : x_in w 1) (h0 : ¬ w = nI 0) : w = nI 1 := by
  obtain ⟨k, hk, rfl⟩ := x_in_of h (by decide)
  rcases (show k = 0 ∨ k = 1 by omega) with rfl | rfl
  · exact absurd rfl h0
  · rfl
theorem zero_ne {w : Int32} (h : w = nI 0) : ¬ w = nI 1 := by
  subst h
  decide
theorem ch_ok {n : Nat} {kd ag : Nat → Int32} {x w : Int32} (h1 : ¬ x < 0) (h2 : ¬ nI 400 < x) (h3 : ¬ w < 0) (h4 : w ≤ nI 1) (hn : ¬ n = 0) : chF n kd ag x w = chN n kd ag x w := by
  unfold chF
  rw [if_pos ⟨⟨Int32.not_lt.mp h1, Int32.not_lt.mp h2⟩, Int32.not_lt.mp h3, h4⟩, if_neg hn]
theorem dgS_p {n : Nat} {kd ag pa : Nat → Int32} {td : Nat} {cb : Nat → Bool} {h : Int64} (e : ¬ n = 0) : dgS n kd ag pa td cb h =
  mx (mx (mx (mx (mx (mx h (if n = 0 then -103 else nI (wkF n (nmF kd ag) n)).toInt64) (chF n kd ag (nI 9) (nI 0)).toInt64) (chF n kd ag (nI 9) (nI 1)).toInt64) (dysF n cb td (nI 0)).toInt64) (dysF n cb td (nI 1)).toInt64) (if n = 0 then -103 else askF n kd ag pa cb td).toInt64 := by
  have c0 : chF n kd ag (nI 9) (nI 0) = chN n kd ag (nI 9) (nI 0) := ch_ok (by decide) (by decide) (by decide) (by decide) e
  have c1 : chF n kd ag (nI 9) (nI 1) = chN n kd ag (nI 9) (nI 1) := ch_ok (by decide) (by decide) (by decide) (by decide) e
  have d0 : dysF n cb td (nI 0) = dyF cb td (nI 0) := by
    unfold dysF
    rw [if_pos ⟨by decide, by decide⟩, if_neg e]
  have d1 : dysF n cb td (nI 1) = dyF cb td (nI 1) := by
    unfold dysF
    rw [if_pos ⟨by decide, by decide⟩, if_neg e]
  rw [c0, c1, d0, d1, if_neg e, if_neg e]
  unfold dgS
  rw [if_neg e]
/-- the tally of numbers, as far as day i -/
def tyP (cb : Nat → Bool) (v : Nat → Int32) (x d : Nat) : Bool := cb d && decide ((v d).toNatClampNeg = x)
def tyF (cb : Nat → Bool) (v : Nat → Int32) (i : Nat) : Nat → Int32 := fun x => nI (cn (tyP cb v x) i)
abbrev v40 (v : Nat → Int32) (td : Nat) : Prop := ∀ d, d ≤ td → (v d).toNatClampNeg < 40 ∧ v d = nI (v d).toNatClampNeg
theorem ty_f {cb : Nat → Bool} {v : Nat → Int32} {i : Nat} (h : ¬ cb i = true) : tyF cb v (i + 1) = tyF cb v i := by
  funext x
  unfold tyF
  rw [cn_f (by unfold tyP; rw [Bool.eq_false_iff.mpr h]; rfl)]
theorem ty_s {cb : Nat → Bool} {v : Nat → Int32} {i : Nat} (h : cb i = true) : upd (tyF cb v i) (v i).toNatClampNeg (tyF cb v i (v i).toNatClampNeg + nI 1) = tyF cb v (i + 1) := by
  funext x
  unfold upd tyF
  by_cases hx : x = (v i).toNatClampNeg
  · rw [if_pos hx, cn_t (by unfold tyP; rw [h, hx, decide_eq_true rfl]; rfl), hx, nI_succ (cn _ i)]; rfl
  · rw [if_neg hx, cn_f (by unfold tyP; rw [decide_eq_false (fun q => hx q.symm)]; exact Bool.and_false _)]
theorem ty_at {cb : Nat → Bool} {v : Nat → Int32} {td i : Nat} (hv : v40 v td) (hi : i ≤ td) : tyF cb v (i + 1) (v i).toNatClampNeg = nI (cn (woQ cb v i) (i + 1)) := by
  unfold tyF
  rw [cn_c (q := woQ cb v i)]
  intro j hj
  unfold tyP woQ
  congr 1
  apply decide_eq_decide.mpr
  refine ⟨fun q => ?_, fun q => by rw [q]⟩
  rw [(hv i hi).2, (hv j (by omega)).2, q]
def moF (cb : Nat → Bool) (v : Nat → Int32) : Nat → Nat
  | 0 => 0
  | i + 1 => if cb i = true then max (moF cb v i) (cn (woQ cb v i) (i + 1)) else moF cb v i
theorem mo_f {cb : Nat → Bool} {v : Nat → Int32} {i : Nat} (h : ¬ cb i = true) : moF cb v (i + 1) = moF cb v i := if_neg h
theorem mo_le {cb : Nat → Bool} {v : Nat → Int32} : ∀ {i : Nat}, moF cb v i ≤ i
  | 0 => Nat.le_refl _
  | i + 1 => by
    have h1 := mo_le (cb := cb) (v := v) (i := i)
    have h2 := cn_le (woQ cb v i) (i + 1)
    simp only [moF]
    split <;> omega
theorem mo_s {cb : Nat → Bool} {v : Nat → Int32} {i : Nat} (h : cb i = true) (hi : i < 1000) : (if nI (moF cb v i) < nI (cn (woQ cb v i) (i + 1)) then nI (cn (woQ cb v i) (i + 1)) else nI (moF cb v i)) = nI (moF cb v (i + 1)) := by
  have h1 := mo_le (cb := cb) (v := v) (i := i)
  have h2 := cn_le (woQ cb v i) (i + 1)
  have e : moF cb v (i + 1) = max (moF cb v i) (cn (woQ cb v i) (i + 1)) := if_pos h
  rw [e]
  by_cases q : moF cb v i < cn (woQ cb v i) (i + 1)
  · rw [if_pos (nI_lt q (by omega)), Nat.max_eq_right (Nat.le_of_lt q)]
  · rw [if_neg (fun r => q ((nI_ltI (by omega) (by omega)).mp r)), Nat.max_eq_left (Nat.le_of_not_lt q)]
def woK (cb : Nat → Bool) (v : Nat → Int32) (k a : Nat) : Nat := if cb a = true then cn (woQ cb v a) k else 0
theorem woK_t {cb : Nat → Bool} {v : Nat → Int32} {k a : Nat} (h : cb a = true) : woK cb v k a = cn (woQ cb v a) k := if_pos h
theorem woK_f {cb : Nat → Bool} {v : Nat → Int32} {k a : Nat} (h : ¬ cb a = true) : woK cb v k a = 0 := if_neg h
theorem mxF_c {f g : Nat → Nat} : ∀ {n : Nat}, (∀ j, j < n → f j = g j) → mxF f n = mxF g n
  | 0, _ => rfl
  | n + 1, h => by
    simp only [mxF]
    rw [mxF_c (n := n) (fun j hj => h j (by omega)), h n (by omega)]
theorem moF_wo {cb : Nat → Bool} {v : Nat → Int32} : ∀ {k : Nat}, moF cb v k = mxF (woK cb v k) k
  | 0 => rfl
  | k + 1 => by
    have ih := moF_wo (cb := cb) (v := v) (k := k)
    by_cases h : cb k = true
    · have e : moF cb v (k + 1) = max (moF cb v k) (cn (woQ cb v k) (k + 1)) := if_pos h
      rw [e, ih]
      apply Nat.le_antisymm
      · refine Nat.max_le.mpr ⟨?_, ?_⟩
        · refine mxF_le (fun j hj => Nat.le_trans ?_ (mxF_ge (f := woK cb v (k + 1)) (n := k + 1) (j := j) (by omega)))
          by_cases hj : cb j = true
          · rw [woK_t hj, woK_t hj]; simp only [cn]; omega
          · rw [woK_f hj]; exact Nat.zero_le _
        · have := mxF_ge (f := woK cb v (k + 1)) (n := k + 1) (j := k) (by omega)
          rw [woK_t h] at this
          exact this
      · refine mxF_le (fun j hj => ?_)
        by_cases hjk : j = k
        · rw [hjk, woK_t h]; exact Nat.le_max_right _ _
        · by_cases hj2 : cb j = true
          · rw [woK_t hj2]
            by_cases hv : v j = v k
            · have e2 : woQ cb v j = woQ cb v k := by
                funext b
                unfold woQ
                rw [hv]
              rw [e2]; exact Nat.le_max_right _ _
            · rw [cn_f (by unfold woQ; rw [decide_eq_false hv]; exact Bool.and_false _)]
              have := mxF_ge (f := woK cb v k) (n := k) (j := j) (by omega)
              rw [woK_t hj2] at this
              exact Nat.le_trans this (Nat.le_max_left _ _)
          · rw [woK_f hj2]; exact Nat.zero_le _
    · rw [mo_f h, ih]
      have e : ∀ j, woK cb v (k + 1) j = woK cb v k j := by
        intro j
        by_cases hj : cb j = true
        · rw [woK_t hj, woK_t hj, cn_f (by unfold woQ; rw [Bool.eq_false_iff.mpr h]; rfl)]
        · rw [woK_f hj, woK_f hj]
      simp only [mxF]
      rw [mxF_c (fun j _ => e j), woK_f h]
      exact (Nat.max_eq_left (Nat.zero_le _)).symm
theorem mo_wo {cb : Nat → Bool} {v : Nat → Int32} {td i : Nat} (h : i = td + 1) : moF cb v i = woF cb v td := by
  rw [h, moF_wo]
  exact mxF_c (fun j _ => rfl)
/-- ask, with no fewest at first -/
def asM (w : Nat → Nat) (f0 i : Nat) : Nat := if i = 0 then 0 else asL w f0 i
theorem asL_lt {w : Nat → Nat} {f0 : Nat} (hw : ∀ h, w h < f0) : ∀ {i : Nat}, 0 < i → asL w f0 i < f0
  | 0, h => by omega
  | i + 1, _ => by
    have h1 := hw i
    have h2 := asL_le (w := w) (f0 := f0) (h := i)
    simp only [asL]
    split <;> omega
theorem asB_nn {w : Nat → Nat} {f0 : Nat} (hw : ∀ h, w h < f0) : ∀ {i : Nat}, 0 < i → i < 1000 → ¬ asB w f0 i = -1
  | 0, h, _ => by omega
  | i + 1, _, hi => by
    simp only [asB]
    split
    · intro q
      have h3 := nI_pos' (n := i) (by omega)
      rw [q] at h3
      exact absurd h3 (by decide)
    · rename_i hlt
      by_cases h0 : i = 0
      · exfalso
        subst h0
        exact hlt (hw 0)
      · exact asB_nn hw (by omega) (by omega)
theorem as_0 {w : Nat → Nat} {f0 i : Nat} (hw : ∀ h, w h < f0) (hi : i < 1000) (h : asB w f0 i = -1) : i = 0 := by
  apply Classical.byContradiction
  intro q
  exact asB_nn hw (by omega) hi h
theorem asF1 {w : Nat → Nat} {f0 i : Nat} (hw : ∀ h, w h < f0) (hi : i < 1000) (h : asB w f0 i = -1) : asB w f0 (i + 1) = nI i := by
  have := as_0 hw hi h
  subst this
  exact asB_2 rfl (hw 0)
theorem asF2 {w : Nat → Nat} {f0 i : Nat} (hw : ∀ h, w h < f0) (hi : i < 1000) (h : asB w f0 i = -1) : asM w f0 (i + 1) = w i := by
  have := as_0 hw hi h
  subst this
  show asL w f0 1 = w 0
  exact asL_2 rfl (hw 0)
theorem asM_i {w : Nat → Nat} {f0 i : Nat} (h : ¬ asB w f0 i = -1) : asM w f0 i = asL w f0 i := by
  unfold asM
  rw [if_neg (fun q => h (by rw [q]; rfl))]
theorem asM_s {w : Nat → Nat} {f0 i : Nat} : asM w f0 (i + 1) = asL w f0 (i + 1) := rfl
theorem asM_le {w : Nat → Nat} {f0 i : Nat} : asM w f0 i ≤ f0 := by
  unfold asM
  split
  · exact Nat.zero_le _
  · exact asL_le
theorem as_none {w : Nat → Nat} : ∀ {i : Nat}, asB w 0 i = -1
  | 0 => rfl
  | i + 1 => by
    simp only [asB]
    rw [if_neg (by have := asL_le (w := w) (f0 := 0) (h := i); omega)]
    exact as_none
theorem ask_none {n : Nat} {kd ag pa : Nat → Int32} {cb : Nat → Bool} {td : Nat} (h : cn cb (td + 1) = 0) : askF n kd ag pa cb td = -1 := by
  unfold askF f0F
  rw [if_pos h]
  exact as_none
theorem ask_some {n : Nat} {kd ag pa : Nat → Int32} {cb : Nat → Bool} {td : Nat} (h : ¬ cn cb (td + 1) = 0) : askF n kd ag pa cb td = asB (fun h => woF cb (nOf kd ag pa td h) td) 268435456 n := by
  unfold askF f0F
  rw [if_neg h]
theorem wsets_c {ws ws' R : va_W} {i : Nat} {is : List Nat} {x : Nat × va_E} {xs : va_W} (h : ws.set i x = ws') (k : wsets ws' is xs = R) : wsets ws (i :: is) (x :: xs) = R := by
  show wsets (ws.set i x) is xs = R
  rw [h]
  exact k
theorem set_same {ws : va_W} {i : Nat} {x : Nat × va_E} (h : ws[i]? = some x) : ws.set i x = ws := by
  apply List.ext_getElem?
  intro j
  rw [List.getElem?_set]
  by_cases h1 : i = j
  · subst h1
    rw [if_pos rfl]
    split
    · exact h.symm
    · rename_i h2
      rw [List.getElem?_eq_none (Nat.le_of_not_lt h2)] at h
      cases h
  · rw [if_neg h1]
end
section
/-! ===== the string "htmcb" ===== -/
def ES (aS aV : Nat) (A : Nat → Prop) (U : State) (H : Heap) : Prop := vk_S 1 [5] [[104, 116, 109, 99, 98]] (fun _ => aS) (fun _ => aV) A U H ∧ va_Z "java/lang/String" "COMPACT_STRINGS" "Z" (.int 1) A U H ∧ va_Zq "jdk/internal/util/Preconditions" "SIOOBE_FORMATTER" "Ljava/util/function/BiFunction;" A U H
theorem ES.moved {aS aV : Nat} {A : Nat → Prop} {u U : State} {H : Heap} (hvm : u.vm.Alike U.vm) (h : ES aS aV A u H) : ES aS aV A U H := ⟨vk_S.moved hvm h.1, va_Z.moved hvm h.2.1, va_Zq.moved hvm h.2.2⟩
theorem ES.kept {aS aV : Nat} {A : Nat → Prop} {U : State} {H H1 : Heap} (h : ES aS aV A U H) (hq : ∀ a : Nat, a < H.size → ¬ A a → H1[a]? = H[a]?) : ES aS aV A U H1 := ⟨h.1.kept hq, h.2.1.kept hq, h.2.2.kept hq⟩
theorem ES.narrow {aS aV : Nat} {A B : Nat → Prop} {U : State} {H : Heap} (h : ES aS aV A U H) (hAB : ∀ q, B q → A q) : ES aS aV B U H := ⟨h.1.narrow hAB, h.2.1.narrow hAB, h.2.2.narrow hAB⟩
theorem ES.none {aS aV : Nat} {A : Nat → Prop} {U : State} {H : Heap} (h : ES aS aV A U H) : ES aS aV (fun _ => False) U H := h.narrow (fun _ q => q.elim)
def RPE (D : va_G) (cI cB : ClassId) (aS aV : Nat) (A : Nat → Prop) (w : va_W) (av : List Value) : Array Value → State → Prop := fun v U => RP D cI cB aS w av v U ∧ ES aS aV A U U.heap
theorem RPE.blind {D : va_G} {cI cB : ClassId} {aS aV : Nat} {A : Nat → Prop} {w : va_W} {av : List Value} : FrameBlind (RPE D cI cB aS aV A w av) := fun a U g mk q => ⟨RP.blind a U g mk q.1, ES.moved (u := U) (U := U.calling g mk a) (Vm.Alike.refl U.vm) q.2⟩
theorem RPE.preS {D : va_G} {cI cB : ClassId} {aS aV : Nat} {A : Nat → Prop} {w : va_W} {s : State} {H : Heap} (hK : KP D cI cB aS s) (hE : ES aS aV A s H) (hP : va_P D vwCl w H) {As : List Value} : PreS s H (RPE D cI cB aS aV A w As) As :=
  ⟨RPE.blind, fun U hU hW => ⟨⟨rfl, by rw [hU]; exact hP, hK.warm hW⟩, by rw [hU]; exact hE.moved hW.alike⟩⟩
theorem RPE.preV {D : va_G} {cI cB : ClassId} {aS aV : Nat} {A : Nat → Prop} {w : va_W} {s : State} {H : Heap} (hK : KP D cI cB aS s) (hE : ES aS aV A s H) (hP : va_P D vwCl w H) {b q0 ci N : Nat} {C : String} {T : u_T} {fs : List Value} (he : w[q0]? = some (b, .inr (ci, fs))) (hc : vwCl[ci]? = some (C, T, N)) {As : List Value} : PreV s H C b (RPE D cI cB aS aV A w (.ref b :: As)) As :=
  ⟨RPE.blind, va_recv hK.1 hP hc he, fun U hU hW => ⟨⟨rfl, by rw [hU]; exact hP, hK.warm hW⟩, by rw [hU]; exact hE.moved hW.alike⟩⟩
theorem RPE.preX {D : va_G} {cI cB : ClassId} {aS aV : Nat} {A : Nat → Prop} {w : va_W} {s : State} {H : Heap} (hK : KP D cI cB aS s) (hE : ES aS aV A s H) (hP : va_P D vwCl w H) {As : List Value} : PreV s H RJ0 aS (RPE D cI cB aS aV A w (.ref aS :: As)) As :=
  ⟨RPE.blind, (by obtain ⟨cell, h1, h2, h3, -⟩ := (hE.1.1 0 (by decide)).1; exact ⟨cell, h1, h2, h3⟩), fun U hU hW => ⟨⟨rfl, by rw [hU]; exact hP, hK.warm hW⟩, by rw [hU]; exact hE.moved hW.alike⟩⟩
theorem met_ofE {l : Launch} {y : MethodName} {bts : ByteArray} {n : Nat} {ret : Option FieldType} {rm : Room} {D : va_G} {cI cB : ClassId} {aS aV : Nat} {A : Nat → Prop} {w : va_W} {av : List Value} {Qc : Array Value → State → Outcome → State → Prop} {mc ms : Nat} {free : Addr → Prop} (hpl : plainName y.cls = true) (hlen : (lg_sl av).length ≤ n)
    (body : ∀ (p : Program) (e : Env) (s : State) (m : MethodId) (below : List Frame) (meth : Method) (c : Code) (ls : Array Slot), p.tables.exec = Jvm.exec → c.code = bts → meth.sig.returnType = ret → c.maxLocals = n → s.vm.findClass y.cls = some m.cls → (∀ w ∈ gG, w.before av.toArray s = true) → meth.locks = false → (y.name = "<init>" → meth.name = "<init>") → KP D cI cB aS s → ES aS aV A s s.heap → va_P D vwCl w s.heap → lv_has ls n (lv_args 0 av) → W p l e rm s m av.toArray below meth c s.heap [] 0 0 (MQ below Qc av.toArray s mc ms free) (F0 m 0 ls [])) :
    Met l y (mw y bts n ret) rm (RPE D cI cB aS aV A w av) Qc mc ms free := by
  refine Met.ofW (cc := bts) (maxL := n) (ret := ret) hpl rfl ?_
  intro p e s m args below meth c s₁ B hml hv
  obtain ⟨⟨rfl, hP, hK⟩, hE⟩ := hv
  have hts := atoms_spec (ws := mw y bts n ret) B.pre
  have hl := lv_entry av (n := n) hlen
  rw [lg_entry_eq]
  exact body p e s m below meth c _ B.exec B.bytes B.returns hml (findClass_of_methodNamed B.named) (fun w hw => hts w (List.mem_cons_of_mem _ hw)) B.notSynchronized (fun h => by rw [← h]; exact (name_of_methodNamed B.named B.method).1) hK hE hP hl
section SENDS
variable {p : Program} {l : Launch} {e : Env} {R : Room} {s : State} {m : MethodId} {args : Array Value} {below : List Frame} {meth : Method} {c : Code} {cc : ByteArray} {pc : Nat} {ls : Array Slot}
theorem rr_v (hx : p.tables.exec = Jvm.exec) (hb : c.code = cc) (hr : meth.sig.returnType = none) (hlocks : meth.locks = false) (hdg : decode cc pc = .ok (.return_, 1)) : W p l e R s m args below meth c s.heap [] 0 0 (MQ below (va_Sv (fun _ => True)) args s 0 0 (fun _ => False)) (F0 m pc ls []) :=
  W.vret hx hb hr (fun _ ht _ => ⟨rfl, trivial, ht⟩) (fun _ h => by cases h) hdg
end SENDS
section SCALL
variable {p : Program} {l : Launch} {e : Env} {R : Room} {s : State} {m : MethodId} {args : Array Value} {below : List Frame} {meth : Method} {c : Code} {H : Heap} {locs : List Loc} {cells slots : Nat} {Q : State → Prop}
variable {cc : ByteArray} {pc : Nat} {ls : Array Slot} {rest st : List Value} {nL idx n k : Nat} {own C : String} {y : MethodName} {bts : ByteArray} {ret : Option FieldType} {rm : Room} {Pc : Array Value → State → Prop} {b : Addr} {As : List Value}
theorem rdSv (hx : p.tables.exec = Jvm.exec) (hb : c.code = cc) (hml : c.maxLocals = nL) (hown : s.vm.findClass own = some m.cls) (hg : ∀ w ∈ gG, w.before args s = true) (hM : Met l y (mw y bts n ret) rm Pc (va_Sv (fun _ => True)) 0 0 (fun _ => False)) (hl : Cond.methodLink own idx y ∈ gG) (hy : sfacts C y bts n ret k) (hR : rm.frames + 1 ≤ R.frames ∧ 8 + (n + 11) + rm.locals ≤ R.locals) (hz : rm.cells = 0 ∧ rm.slots = 0) (hc : cells ≤ R.cells ∧ slots ≤ R.slots) (hp : PreS s H Pc As) (hn : As.length = k) (hsz : ls.size = nL) (hst : st = As.reverse ++ rest) (hroom : (rest.map fun v => v.category).sum ≤ 8) (hdg : decode cc pc = .ok (.invokestatic idx, 3))
    (kk : W p l e R s m args below meth c H locs cells slots Q (F0 m (pc + 3) ls rest)) : W p l e R s m args below meth c H locs cells slots Q (F0 m pc ls st) :=
  va_csv (W.runS (As := As) (rest := rest) ⟨hx, hb, hml, hown, hg⟩ hM (cwS_of hg hl hy hz.1 hz.2 hR) hp rfl hn hsz hst (lv_room hroom) hdg hc) (fun _ => kk)
end SCALL
def scN (k : Nat) : Nat := ([104, 116, 109, 99, 98] : List Nat).getD k 0
theorem sc_at : ∀ k, k < 5 → Value.int ((([[104, 116, 109, 99, 98]] : List (List Int32)).getD 0 []).getD k 0) = Value.int (nI (scN k)) := by decide +kernel
theorem sc_and : ∀ k, k < 5 → nI (scN k) &&& nI 255 = nI (scN k) := by decide +kernel
theorem sc_chr : ∀ k, k < 5 → ((nI (scN k)).toUInt32 % 65536).toInt32 = nI (scN k) := by decide +kernel
theorem sc_nr5 : ∀ k, k < 5 → narrow .char (.int (nI (scN k))) = .int (nI (scN k)) := by
  have key : ∀ k, k < 5 → ((nI (scN k)).toUInt32 % 65536).toInt32 = nI (scN k) := sc_chr
  intro k hk
  rcases (show k = 0 ∨ k = 1 ∨ k = 2 ∨ k = 3 ∨ k = 4 by omega) with rfl | rfl | rfl | rfl | rfl <;> rfl
theorem scN_lt : ∀ k, k < 5 → scN k < 127 := by decide
theorem kind_at : ∀ k, k < 5 → kindF (scN k) = nI k := by decide +kernel
theorem kind_no {x : Nat} (h : ∀ k, k < 5 → ¬ scN k = x) : kindF x = -1 := by
  unfold kindF
  rw [if_neg (fun q => h 0 (by decide) q.symm), if_neg (fun q => h 1 (by decide) q.symm), if_neg (fun q => h 2 (by decide) q.symm), if_neg (fun q => h 3 (by decide) q.symm), if_neg (fun q => h 4 (by decide) q.symm)]
theorem gdX_0 {k c : Nat} (h : k < 17) (h0 : k % 3 = 0) : gdX k c = true ↔ ¬ kindF c = -1 := by
  unfold gdX
  rw [decide_eq_true h, if_pos h0, Bool.true_and]
  simp
theorem gdX_1 {k c : Nat} (h : k < 17) (h1 : k % 3 = 1) : gdX k c = true ↔ (48 ≤ c ∧ c ≤ 57) := by
  unfold gdX
  rw [decide_eq_true h, if_neg (by omega), if_pos h1, Bool.true_and]
  exact decide_eq_true_iff
theorem gdX_2 {k c : Nat} (h : k < 17) (h0 : ¬ k % 3 = 0) (h1 : ¬ k % 3 = 1) : gdX k c = true ↔ c = 44 := by
  unfold gdX
  rw [decide_eq_true h, if_neg h0, if_neg h1, Bool.true_and]
  exact decide_eq_true_iff
theorem gdX_n {k c : Nat} (h : ¬ k < 17) : ¬ gdX k c = true := by
  unfold gdX
  rw [decide_eq_false h, Bool.false_and]
  decide
end
section
/-! ===== constructors ===== -/
def RPZ (D : va_G) (cI cB : ClassId) (aS sz : Nat) (w : va_W) (av : List Value) : Array Value → State → Prop := fun v U => RP D cI cB aS w av v U ∧ U.heap.size = sz
theorem RPZ.blind {D : va_G} {cI cB : ClassId} {aS sz : Nat} {w : va_W} {av : List Value} : FrameBlind (RPZ D cI cB aS sz w av) := fun a U g mk q => ⟨RP.blind a U g mk q.1, q.2⟩
theorem RPZ.pre {D : va_G} {cI cB : ClassId} {aS : Nat} {w : va_W} {s : State} {H : Heap} (hK : KP D cI cB aS s) (hP : va_P D vwCl w H) {As : List Value} : PreS s H (RPZ D cI cB aS H.size w As) As :=
  ⟨RPZ.blind, fun U hU hW => ⟨⟨rfl, by rw [hU]; exact hP, hK.warm hW⟩, by rw [hU]⟩⟩
abbrev cqv {S : Type} (D : va_G) (sz : Nat) (w : va_W) (w1 : S → va_W) (post : S → Prop) : Array Value → State → Outcome → State → Prop := va_Qv post (fun u t => va_P D vwCl (w1 u) t.heap ∧ va_D (va_A w sz) (w1 u)) (va_A w sz)
theorem met_ofC {l : Launch} {y : MethodName} {bts : ByteArray} {n : Nat} {ret : Option FieldType} {rm : Room} {D : va_G} {cI cB : ClassId} {aS sz : Nat} {w : va_W} {av : List Value} {Qc : Array Value → State → Outcome → State → Prop} {mc ms : Nat} {free : Addr → Prop} (hpl : plainName y.cls = true) (hlen : (lg_sl av).length ≤ n)
    (body : ∀ (p : Program) (e : Env) (s : State) (m : MethodId) (below : List Frame) (meth : Method) (c : Code) (ls : Array Slot), p.tables.exec = Jvm.exec → c.code = bts → meth.sig.returnType = ret → c.maxLocals = n → s.vm.findClass y.cls = some m.cls → (∀ w ∈ gG, w.before av.toArray s = true) → meth.locks = false → (y.name = "<init>" → meth.name = "<init>") → KP D cI cB aS s → s.heap.size = sz → va_P D vwCl w s.heap → lv_has ls n (lv_args 0 av) → W p l e rm s m av.toArray below meth c s.heap [] 0 0 (MQ below Qc av.toArray s mc ms free) (F0 m 0 ls [])) :
    Met l y (mw y bts n ret) rm (RPZ D cI cB aS sz w av) Qc mc ms free := by
  refine Met.ofW (cc := bts) (maxL := n) (ret := ret) hpl rfl ?_
  intro p e s m args below meth c s₁ B hml hv
  obtain ⟨⟨rfl, hP, hK⟩, hz⟩ := hv
  have hts := atoms_spec (ws := mw y bts n ret) B.pre
  have hl := lv_entry av (n := n) hlen
  rw [lg_entry_eq]
  exact body p e s m below meth c _ B.exec B.bytes B.returns hml (findClass_of_methodNamed B.named) (fun w hw => hts w (List.mem_cons_of_mem _ hw)) B.notSynchronized (fun h => by rw [← h]; exact (name_of_methodNamed B.named B.method).1) hK hz hP hl
theorem cI_eq {D : va_G} {cI cB cA : ClassId} {s : State} (hK : va_K D vwCl [(cI, .int), (cB, .long)] s) (h : va_K D vwCl ([(cI, .int), (cB, .long)] ++ [(cA, .int)]) s) : cA = cI := by
  have h1 : s.vm.findClass ("[" ++ FieldType.int.toString) = some cA := (h.2 2 _ rfl).2
  have h2 : s.vm.findClass ("[" ++ FieldType.int.toString) = some cI := (hK.2 0 _ rfl).2
  exact Option.some.inj (h1.symm.trans h2)
theorem cB_eq {D : va_G} {cI cB cA : ClassId} {s : State} (hK : va_K D vwCl [(cI, .int), (cB, .long)] s) (h : va_K D vwCl ([(cI, .int), (cB, .long)] ++ [(cA, .long)]) s) : cA = cB := by
  have h1 : s.vm.findClass ("[" ++ FieldType.long.toString) = some cA := (h.2 2 _ rfl).2
  have h2 : s.vm.findClass ("[" ++ FieldType.long.toString) = some cB := (hK.2 1 _ rfl).2
  exact Option.some.inj (h1.symm.trans h2)
theorem new_i {n : Nat} (cA : ClassId) : vp_cell cA (n, .inl (fun _ => nI 0)) = arrV cA n (fun _ => defaultValue .int) := rfl
theorem new_l {n : Nat} (cA : ClassId) : vp_cell cA (n, .inr (.inl (fun _ => 0))) = arrV cA n (fun _ => defaultValue .long) := rfl
section CWN
variable {R : Room} {s : State} {args : Array Value} {own C : String} {idx : Nat} {y : MethodName} {b : ByteArray} {n k : Nat} {rm : Room} {mc ms : Nat}
theorem cwIN_of {host : String} (hg : ∀ w ∈ gG, w.before args s = true) (hl : va_Nw (.methodLinkNest own idx y host) s) (hy : ifacts C y b n k) (hrc : rm.cells = mc) (hrs : rm.slots = ms) (hR : rm.frames + 1 ≤ R.frames ∧ 8 + (n + 11) + rm.locals ≤ R.locals) : va_CN R s args own idx y host b n none (mw y b n none) rm mc ms k ∧ y.name = "<init>" ∧ (Cond.instanceMethod y).before args s = true :=
  ⟨va_cnB k hg (gG_good (fun w hw => by
    rcases List.mem_cons.mp hw with rfl | h
    · exact hy.2.2.2.2
    · exact h)) rfl hrc hrs hl (by rw [hy.1.1]; exact hg _ hy.2.2.2.1) hy.1.2 hR, hy.2.1, hg _ hy.2.2.1⟩
end CWN
end
section
abbrev rm_X1_at : Room := { frames := 0, cells := 0, slots := 0, locals := 0 }
set_option maxRecDepth 100000 in
set_option maxHeartbeats 4000000 in
theorem c_X1_at (l : Launch) (D : va_G) (cI cB : ClassId) (aS : Nat) (h0 h1 nn : Nat) (f : Nat → Int32) (i : Nat) (qn : nn < 2147483648) (qi : i < nn) : Met l yX1_at (mw yX1_at cX1_at 2 (some .int)) rm_X1_at (RP D cI cB aS ([(h0, .inr (1, [.ref h1])), (h1, .inl (cI, nn, .inl f))]) [.ref h0, .int (nI i)]) (vp_Si (fun r => r = (f i))) 0 0 (fun _ => False) := by
  refine met_of (by decide) (Nat.le_of_ble_eq_true rfl) ?_
  intro p e s m below meth c ls hx hb hr hml hown hg hlocks hin hK hP hl
  have hown : s.vm.findClass RX1 = some m.cls := hown
  have hl : lv_has ls 2 [(0, .ref h0), (1, .int (nI i))] := hl
  refine lv_iload_n hx hb dX1_at_0 rfl (lv_at hl 1 rfl) ?_
  refine nv_if_lt (tgt := 22) hx hb dX1_at_1 (by omega) (by decide) ?_
  refine lv_iload_n hx hb dX1_at_4 rfl (lv_at hl 1 rfl) ?_
  refine lv_aload_n hx hb dX1_at_5 rfl (lv_at hl 0 rfl) ?_
  refine va_get (D := D) (ci := 1) (v := .ref h1) (C := RX1) (T := TX1) (N := 1) hx hb hg us_X1 hown hK.1 hP 0 rfl rfl 0 (by decide) (hg _ gm_24) (fun _ h9 => h9) rfl dX1_at_6 ?_
  refine va_alen hx hb hK.1 hP 1 0 (v := nI nn) rfl rfl rfl dX1_at_9 ?_
  refine nv_icmp_ge (tgt := 22) hx hb dX1_at_10 (by omega) (by omega) (by decide) (fun c_10 => ?_) (fun c_10 => ?_)
  · exact absurd c_10 (by omega)
  · skip
    refine lv_aload_n hx hb dX1_at_13 rfl (lv_at hl 0 rfl) ?_
    refine va_get (D := D) (ci := 1) (v := .ref h1) (C := RX1) (T := TX1) (N := 1) hx hb hg us_X1 hown hK.1 hP 0 rfl rfl 0 (by decide) (hg _ gm_24) (fun _ h9 => h9) rfl dX1_at_14 ?_
    refine lv_iload_n hx hb dX1_at_17 rfl (lv_at hl 1 rfl) ?_
    refine nv_iald hx hb hK.1 hP 1 0 rfl rfl (by omega) (by omega) dX1_at_18 ?_
    refine lv_goto (tgt := 23) hx hb dX1_at_19 (by decide) ?_
    exact rr_i hx hb hr hlocks dX1_at_23 rfl
abbrev rm_X1_put : Room := { frames := 0, cells := 0, slots := 0, locals := 0 }
set_option maxRecDepth 100000 in
set_option maxHeartbeats 4000000 in
theorem c_X1_put (l : Launch) (D : va_G) (cI cB : ClassId) (aS : Nat) (h0 h1 nn : Nat) (f : Nat → Int32) (i : Nat) (x : Int32) (hD0 : va_D (fun _ => True) ([(h0, .inr (1, [.ref h1])), (h1, .inl (cI, nn, .inl f))])) (qn : nn < 2147483648) (qi : i < nn) : Met l yX1_put (mw yX1_put cX1_put 3 none) rm_X1_put (RP D cI cB aS ([(h0, .inr (1, [.ref h1])), (h1, .inl (cI, nn, .inl f))]) [.ref h0, .int (nI i), .int x]) (wq mkV ([(h0, .inr (1, [.ref h1])), (h1, .inl (cI, nn, .inl f))]) (fun (_ : Unit) => [(h0, .inr (1, [.ref h1])), (h1, .inl (cI, nn, .inl (upd f i x)))]) D (fun (_ : Unit) (_ : Unit) => True)) 0 0 (inW ([(h0, .inr (1, [.ref h1])), (h1, .inl (cI, nn, .inl f))])) := by
  refine met_of (by decide) (Nat.le_of_ble_eq_true rfl) ?_
  intro p e s m below meth c ls hx hb hr hml hown hg hlocks hin hK hP hl
  have hown : s.vm.findClass RX1 = some m.cls := hown
  have hl : lv_has ls 3 [(0, .ref h0), (1, .int (nI i)), (2, .int x)] := hl
  have hD := hD0.here
  have hS0 : va_S (inW ([(h0, .inr (1, [.ref h1])), (h1, .inl (cI, nn, .inl f))])) s.heap s.heap [] := va_S.rf
  obtain ⟨H, hH⟩ : ∃ H, H = s.heap := ⟨_, rfl⟩
  have hS : va_S (inW ([(h0, .inr (1, [.ref h1])), (h1, .inl (cI, nn, .inl f))])) s.heap H [] := by rw [hH]; exact hS0
  clear hS0
  rw [← hH] at hP ⊢
  generalize hAe : inW ([(h0, .inr (1, [.ref h1])), (h1, .inl (cI, nn, .inl f))]) = A at hD hS ⊢
  refine lv_iload_n hx hb dX1_put_0 rfl (lv_at hl 1 rfl) ?_
  refine nv_if_lt (tgt := 20) hx hb dX1_put_1 (by omega) (by decide) ?_
  refine lv_iload_n hx hb dX1_put_4 rfl (lv_at hl 1 rfl) ?_
  refine lv_aload_n hx hb dX1_put_5 rfl (lv_at hl 0 rfl) ?_
  refine va_get (D := D) (ci := 1) (v := .ref h1) (C := RX1) (T := TX1) (N := 1) hx hb hg us_X1 hown hK.1 hP 0 rfl rfl 0 (by decide) (hg _ gm_24) (fun _ h9 => h9) rfl dX1_put_6 ?_
  refine va_alen hx hb hK.1 hP 1 0 (v := nI nn) rfl rfl rfl dX1_put_9 ?_
  refine nv_icmp_ge (tgt := 20) hx hb dX1_put_10 (by omega) (by omega) (by decide) (fun c_10 => ?_) (fun c_10 => ?_)
  · exact absurd c_10 (by omega)
  · skip
    refine lv_aload_n hx hb dX1_put_13 rfl (lv_at hl 0 rfl) ?_
    refine va_get (D := D) (ci := 1) (v := .ref h1) (C := RX1) (T := TX1) (N := 1) hx hb hg us_X1 hown hK.1 hP 0 rfl rfl 0 (by decide) (hg _ gm_24) (fun _ h9 => h9) rfl dX1_put_14 ?_
    refine lv_iload_n hx hb dX1_put_17 rfl (lv_at hl 1 rfl) ?_
    refine lv_iload_n hx hb dX1_put_18 rfl (lv_at hl 2 rfl) ?_
    refine nv_iast hx hb hK.1 hP hD hS 1 0 rfl rfl (by omega) (by omega) dX1_put_19 (fun H locs hP hD hS => ?_)
    have hP : va_P D vwCl ([(h0, .inr (1, [.ref h1])), (h1, .inl (cI, nn, .inl (upd f i x)))]) H := hP
    have hD : va_D A ([(h0, .inr (1, [.ref h1])), (h1, .inl (cI, nn, .inl (upd f i x)))]) := hD
    subst hAe
    exact wr_v (w1 := fun (_ : Unit) => [(h0, .inr (1, [.ref h1])), (h1, .inl (cI, nn, .inl (upd f i x)))]) hx hb hr hlocks hS () hP dX1_put_20 trivial
abbrev rm_X1_add : Room := { frames := 1, cells := 0, slots := 0, locals := 22 }
theorem vf_X1_at : vfacts RX1 yX1_at cX1_at 2 (some .int) 1 := ⟨⟨rfl, by decide +kernel, by decide +kernel, by decide +kernel⟩, gm_96, gm_97, gm_3, gm_98⟩
theorem vf_X1_put : vfacts RX1 yX1_put cX1_put 3 none 2 := ⟨⟨rfl, by decide +kernel, by decide +kernel, by decide +kernel⟩, gm_138, gm_139, gm_3, gm_140⟩
set_option maxRecDepth 100000 in
set_option maxHeartbeats 4000000 in
theorem c_X1_add (l : Launch) (D : va_G) (cI cB : ClassId) (aS : Nat) (h0 h1 nn : Nat) (f : Nat → Int32) (i : Nat) (x : Int32) (hD0 : va_D (fun _ => True) ([(h0, .inr (1, [.ref h1])), (h1, .inl (cI, nn, .inl f))])) (qn : nn < 2147483648) (qi : i < nn) : Met l yX1_add (mw yX1_add cX1_add 3 none) rm_X1_add (RP D cI cB aS ([(h0, .inr (1, [.ref h1])), (h1, .inl (cI, nn, .inl f))]) [.ref h0, .int (nI i), .int x]) (wq mkV ([(h0, .inr (1, [.ref h1])), (h1, .inl (cI, nn, .inl f))]) (fun (_ : Unit) => [(h0, .inr (1, [.ref h1])), (h1, .inl (cI, nn, .inl (upd f i (f i + x))))]) D (fun (_ : Unit) (_ : Unit) => True)) 0 0 (inW ([(h0, .inr (1, [.ref h1])), (h1, .inl (cI, nn, .inl f))])) := by
  refine met_of (by decide) (Nat.le_of_ble_eq_true rfl) ?_
  intro p e s m below meth c ls hx hb hr hml hown hg hlocks hin hK hP hl
  have hown : s.vm.findClass RX1 = some m.cls := hown
  have hl : lv_has ls 3 [(0, .ref h0), (1, .int (nI i)), (2, .int x)] := hl
  have hD := hD0.here
  have hS0 : va_S (inW ([(h0, .inr (1, [.ref h1])), (h1, .inl (cI, nn, .inl f))])) s.heap s.heap [] := va_S.rf
  obtain ⟨H, hH⟩ : ∃ H, H = s.heap := ⟨_, rfl⟩
  have hS : va_S (inW ([(h0, .inr (1, [.ref h1])), (h1, .inl (cI, nn, .inl f))])) s.heap H [] := by rw [hH]; exact hS0
  clear hS0
  rw [← hH] at hP ⊢
  generalize hAe : inW ([(h0, .inr (1, [.ref h1])), (h1, .inl (cI, nn, .inl f))]) = A at hD hS ⊢
  refine lv_aload_n hx hb dX1_add_0 rfl (lv_at hl 0 rfl) ?_
  refine lv_iload_n hx hb dX1_add_1 rfl (lv_at hl 1 rfl) ?_
  refine lv_aload_n hx hb dX1_add_2 rfl (lv_at hl 0 rfl) ?_
  refine lv_iload_n hx hb dX1_add_3 rfl (lv_at hl 1 rfl) ?_
  refine rdV (As := [.int (nI i)]) (rest := [.int (nI i), .ref h0]) hx hb hml hown hg (c_X1_at l D cI cB aS h0 h1 nn f i (by first | assumption | omega) (by first | assumption | omega)) gm_148 vf_X1_at ⟨Nat.le_of_ble_eq_true rfl, Nat.le_of_ble_eq_true rfl⟩ ⟨rfl, rfl⟩ ⟨Nat.zero_le _, Nat.zero_le _⟩ (RP.preV hK hP (q0 := 0) (ci := 1) rfl rfl) rfl hl.1 rfl (Nat.le_of_ble_eq_true rfl) dX1_add_4 ?_
  refine lv_iload_n hx hb dX1_add_7 rfl (lv_at hl 2 rfl) ?_
  refine lv_iadd hx hb dX1_add_8 ?_
  refine wrVv (As := [.int (nI i), .int ((f i) + x)]) (rest := []) hx hb hml hown hg (c_X1_put l D cI cB aS h0 h1 nn f i ((f i) + x) (hD.weaken (fun _ _ _ _ => trivial)) (by first | assumption | omega) (by first | assumption | omega)) gm_149 vf_X1_put ⟨Nat.le_of_ble_eq_true rfl, Nat.le_of_ble_eq_true rfl⟩ ⟨rfl, rfl⟩ ⟨Nat.zero_le _, Nat.zero_le _⟩ (RP.preV hK hP (q0 := 0) (ci := 1) rfl rfl) rfl hl.1 rfl (Nat.le_of_ble_eq_true rfl) dX1_add_9 hS (inW_all hD) (fun u_1 H1 locs hpo_1 hP1 hk1 hS => ?_)
  have hP : va_P D vwCl ([(h0, .inr (1, [.ref h1])), (h1, .inl (cI, nn, .inl (upd f i ((f i) + x))))]) H1 := hP1
  have hD : va_D A ([(h0, .inr (1, [.ref h1])), (h1, .inl (cI, nn, .inl (upd f i ((f i) + x))))]) := hD.addr rfl
  clear hP1 hk1
  generalize H1 = H at hP hS ⊢
  subst hAe
  exact wr_v (w1 := fun (_ : Unit) => [(h0, .inr (1, [.ref h1])), (h1, .inl (cI, nn, .inl (upd f i (f i + x))))]) hx hb hr hlocks hS () hP dX1_add_12 trivial
abbrev rm_X1_clear : Room := { frames := 0, cells := 0, slots := 0, locals := 0 }
set_option maxRecDepth 100000 in
set_option maxHeartbeats 4000000 in
theorem c_X1_clear (l : Launch) (D : va_G) (cI cB : ClassId) (aS : Nat) (h0 h1 nn : Nat) (f : Nat → Int32)  (hD0 : va_D (fun _ => True) ([(h0, .inr (1, [.ref h1])), (h1, .inl (cI, nn, .inl f))])) (qn : nn < 2147483648) : Met l yX1_clear (mw yX1_clear cX1_clear 2 none) rm_X1_clear (RP D cI cB aS ([(h0, .inr (1, [.ref h1])), (h1, .inl (cI, nn, .inl f))]) [.ref h0]) (wq mkV ([(h0, .inr (1, [.ref h1])), (h1, .inl (cI, nn, .inl f))]) (fun (_ : Unit) => [(h0, .inr (1, [.ref h1])), (h1, .inl (cI, nn, .inl (fun _ => nI 0)))]) D (fun (_ : Unit) (_ : Unit) => True)) 0 0 (inW ([(h0, .inr (1, [.ref h1])), (h1, .inl (cI, nn, .inl f))])) := by
  refine met_of (by decide) (Nat.le_of_ble_eq_true rfl) ?_
  intro p e s m below meth c ls hx hb hr hml hown hg hlocks hin hK hP hl
  have hown : s.vm.findClass RX1 = some m.cls := hown
  have hl : lv_has ls 2 [(0, .ref h0)] := hl
  have hD := hD0.here
  have hS0 : va_S (inW ([(h0, .inr (1, [.ref h1])), (h1, .inl (cI, nn, .inl f))])) s.heap s.heap [] := va_S.rf
  obtain ⟨H, hH⟩ : ∃ H, H = s.heap := ⟨_, rfl⟩
  have hS : va_S (inW ([(h0, .inr (1, [.ref h1])), (h1, .inl (cI, nn, .inl f))])) s.heap H [] := by rw [hH]; exact hS0
  clear hS0
  rw [← hH] at hP ⊢
  generalize hAe : inW ([(h0, .inr (1, [.ref h1])), (h1, .inl (cI, nn, .inl f))]) = A at hD hS ⊢
  refine lv_iconst (v := (nI 0)) hx hb dX1_clear_0 (by decide) ?_
  refine lv_istore_n (lv' := [(1, .int (nI 0)), (0, .ref h0)]) hx hb dX1_clear_1 rfl hl (by decide) rfl (fun ls hl => ?_)
  -- loop at 2
  refine loopW (nL := 2) (S := Unit) (B := nn) (I := fun i u => True) (lv := fun i u => [(0, .ref h0), (1, .int (nI i))]) (wf := fun i u => [(h0, .inr (1, [.ref h1])), (h1, .inl (cI, nn, .inl (cpF (fun _ => nI 0) f i)))]) 0 () (Nat.zero_le _) (trivial) (lv_sub hl [1, 0] rfl) (by show va_P D vwCl ([(h0, .inr (1, [.ref h1])), (h1, .inl (cI, nn, .inl (cpF (fun _ => nI 0) f 0)))]) H; rw [cpF_0]; exact hP) (hD.addr rfl) hS (fun i u ls H locs hj hI hl hP hD hS ih => ?_)
  have hP : va_P D vwCl ([(h0, .inr (1, [.ref h1])), (h1, .inl (cI, nn, .inl (cpF (fun _ => nI 0) f i)))]) H := hP
  have hD : va_D A ([(h0, .inr (1, [.ref h1])), (h1, .inl (cI, nn, .inl (cpF (fun _ => nI 0) f i)))]) := hD
  have hl : lv_has ls 2 [(0, .ref h0), (1, .int (nI i))] := hl
  have ih_2 := ih
  refine lv_iload_n hx hb dX1_clear_2 rfl (lv_at hl 1 rfl) ?_
  refine lv_aload_n hx hb dX1_clear_3 rfl (lv_at hl 0 rfl) ?_
  refine va_get (D := D) (ci := 1) (v := .ref h1) (C := RX1) (T := TX1) (N := 1) hx hb hg us_X1 hown hK.1 hP 0 rfl rfl 0 (by decide) (hg _ gm_24) (fun _ h9 => h9) rfl dX1_clear_4 ?_
  refine va_alen hx hb hK.1 hP 1 0 (v := nI nn) rfl rfl rfl dX1_clear_7 ?_
  refine nv_icmp_ge (tgt := 24) hx hb dX1_clear_8 (by omega) (by omega) (by decide) (fun c_8 => ?_) (fun c_8 => ?_)
  · skip
    have hP : va_P D vwCl ([(h0, .inr (1, [.ref h1])), (h1, .inl (cI, nn, .inl (fun _ => nI 0)))]) H := P_congr (g := (fun _ => nI 0)) hP 1 rfl (fun j hj => cpF_at (by omega))
    have hD : va_D A ([(h0, .inr (1, [.ref h1])), (h1, .inl (cI, nn, .inl (fun _ => nI 0)))]) := hD.addr rfl
    subst hAe
    exact wr_v (w1 := fun (_ : Unit) => [(h0, .inr (1, [.ref h1])), (h1, .inl (cI, nn, .inl (fun _ => nI 0)))]) hx hb hr hlocks hS () hP dX1_clear_24 trivial
  · skip
    refine lv_aload_n hx hb dX1_clear_11 rfl (lv_at hl 0 rfl) ?_
    refine va_get (D := D) (ci := 1) (v := .ref h1) (C := RX1) (T := TX1) (N := 1) hx hb hg us_X1 hown hK.1 hP 0 rfl rfl 0 (by decide) (hg _ gm_24) (fun _ h9 => h9) rfl dX1_clear_12 ?_
    refine lv_iload_n hx hb dX1_clear_15 rfl (lv_at hl 1 rfl) ?_
    refine lv_iconst (v := (nI 0)) hx hb dX1_clear_16 (by decide) ?_
    refine nv_iast hx hb hK.1 hP hD hS 1 0 rfl rfl (by omega) (by omega) dX1_clear_17 (fun H locs hP hD hS => ?_)
    have hP : va_P D vwCl ([(h0, .inr (1, [.ref h1])), (h1, .inl (cI, nn, .inl (upd (cpF (fun _ => nI 0) f i) i (nI 0))))]) H := hP
    have hD : va_D A ([(h0, .inr (1, [.ref h1])), (h1, .inl (cI, nn, .inl (upd (cpF (fun _ => nI 0) f i) i (nI 0))))]) := hD
    have e_1 : upd (cpF (fun _ => nI 0) f i) i (nI 0) = cpF (fun _ => nI 0) f (i + 1) := cpF_s rfl
    rw [e_1] at hP hD
    have hP : va_P D vwCl ([(h0, .inr (1, [.ref h1])), (h1, .inl (cI, nn, .inl (cpF (fun _ => nI 0) f (i + 1))))]) H := hP
    have hD : va_D A ([(h0, .inr (1, [.ref h1])), (h1, .inl (cI, nn, .inl (cpF (fun _ => nI 0) f (i + 1))))]) := hD
    refine lv_iinc (v := (nI (i + 1))) (lv' := [(1, .int (nI (i + 1))), (0, .ref h0)]) hx hb dX1_clear_18 hl (k := 1) rfl (nI_i1 _) (by decide) rfl (fun ls hl => ?_)
    refine lv_goto (tgt := 2) hx hb dX1_clear_21 (by decide) ?_
    exact ih_2 () _ _ _ (by omega) (trivial) (lv_sub hl [1, 0] rfl) hP (hD.addr rfl) hS
abbrev rm_X1_take : Room := { frames := 1, cells := 0, slots := 0, locals := 21 }
set_option maxRecDepth 100000 in
set_option maxHeartbeats 4000000 in
theorem c_X1_take (l : Launch) (D : va_G) (cI cB : ClassId) (aS : Nat) (h0 h1 nn : Nat) (f : Nat → Int32) (o0 o1 : Nat) (g : Nat → Int32)  (hD0 : va_D (fun _ => True) ([(h0, .inr (1, [.ref h1])), (h1, .inl (cI, nn, .inl f)), (o0, .inr (1, [.ref o1])), (o1, .inl (cI, nn, .inl g))])) (qn : nn < 2147483648) : Met l yX1_take (mw yX1_take cX1_take 3 none) rm_X1_take (RP D cI cB aS ([(h0, .inr (1, [.ref h1])), (h1, .inl (cI, nn, .inl f)), (o0, .inr (1, [.ref o1])), (o1, .inl (cI, nn, .inl g))]) [.ref h0, .ref o0]) (wq mkV ([(h0, .inr (1, [.ref h1])), (h1, .inl (cI, nn, .inl f)), (o0, .inr (1, [.ref o1])), (o1, .inl (cI, nn, .inl g))]) (fun (_ : Unit) => [(h0, .inr (1, [.ref h1])), (h1, .inl (cI, nn, .inl g)), (o0, .inr (1, [.ref o1])), (o1, .inl (cI, nn, .inl g))]) D (fun (_ : Unit) (_ : Unit) => True)) 0 0 (inW ([(h0, .inr (1, [.ref h1])), (h1, .inl (cI, nn, .inl f)), (o0, .inr (1, [.ref o1])), (o1, .inl (cI, nn, .inl g))])) := by
  refine met_of (by decide) (Nat.le_of_ble_eq_true rfl) ?_
  intro p e s m below meth c ls hx hb hr hml hown hg hlocks hin hK hP hl
  have hown : s.vm.findClass RX1 = some m.cls := hown
  have hl : lv_has ls 3 [(0, .ref h0), (1, .ref o0)] := hl
  have hD := hD0.here
  have hS0 : va_S (inW ([(h0, .inr (1, [.ref h1])), (h1, .inl (cI, nn, .inl f)), (o0, .inr (1, [.ref o1])), (o1, .inl (cI, nn, .inl g))])) s.heap s.heap [] := va_S.rf
  obtain ⟨H, hH⟩ : ∃ H, H = s.heap := ⟨_, rfl⟩
  have hS : va_S (inW ([(h0, .inr (1, [.ref h1])), (h1, .inl (cI, nn, .inl f)), (o0, .inr (1, [.ref o1])), (o1, .inl (cI, nn, .inl g))])) s.heap H [] := by rw [hH]; exact hS0
  clear hS0
  rw [← hH] at hP ⊢
  generalize hAe : inW ([(h0, .inr (1, [.ref h1])), (h1, .inl (cI, nn, .inl f)), (o0, .inr (1, [.ref o1])), (o1, .inl (cI, nn, .inl g))]) = A at hD hS ⊢
  refine lv_iconst (v := (nI 0)) hx hb dX1_take_0 (by decide) ?_
  refine lv_istore_n (lv' := [(2, .int (nI 0)), (0, .ref h0), (1, .ref o0)]) hx hb dX1_take_1 rfl hl (by decide) rfl (fun ls hl => ?_)
  -- loop at 2
  refine loopW (nL := 3) (S := Unit) (B := nn) (I := fun i u => True) (lv := fun i u => [(0, .ref h0), (1, .ref o0), (2, .int (nI i))]) (wf := fun i u => [(h0, .inr (1, [.ref h1])), (h1, .inl (cI, nn, .inl (cpF g f i))), (o0, .inr (1, [.ref o1])), (o1, .inl (cI, nn, .inl g))]) 0 () (Nat.zero_le _) (trivial) (lv_sub hl [1, 2, 0] rfl) (by show va_P D vwCl ([(h0, .inr (1, [.ref h1])), (h1, .inl (cI, nn, .inl (cpF g f 0))), (o0, .inr (1, [.ref o1])), (o1, .inl (cI, nn, .inl g))]) H; rw [cpF_0]; exact hP) (hD.addr rfl) hS (fun i u ls H locs hj hI hl hP hD hS ih => ?_)
  have hP : va_P D vwCl ([(h0, .inr (1, [.ref h1])), (h1, .inl (cI, nn, .inl (cpF g f i))), (o0, .inr (1, [.ref o1])), (o1, .inl (cI, nn, .inl g))]) H := hP
  have hD : va_D A ([(h0, .inr (1, [.ref h1])), (h1, .inl (cI, nn, .inl (cpF g f i))), (o0, .inr (1, [.ref o1])), (o1, .inl (cI, nn, .inl g))]) := hD
  have hl : lv_has ls 3 [(0, .ref h0), (1, .ref o0), (2, .int (nI i))] := hl
  have ih_2 := ih
  refine lv_iload_n hx hb dX1_take_2 rfl (lv_at hl 2 rfl) ?_
  refine lv_aload_n hx hb dX1_take_3 rfl (lv_at hl 0 rfl) ?_
  refine va_get (D := D) (ci := 1) (v := .ref h1) (C := RX1) (T := TX1) (N := 1) hx hb hg us_X1 hown hK.1 hP 0 rfl rfl 0 (by decide) (hg _ gm_24) (fun _ h9 => h9) rfl dX1_take_4 ?_
  refine va_alen hx hb hK.1 hP 1 0 (v := nI nn) rfl rfl rfl dX1_take_7 ?_
  refine nv_icmp_ge (tgt := 28) hx hb dX1_take_8 (by omega) (by omega) (by decide) (fun c_8 => ?_) (fun c_8 => ?_)
  · skip
    have hP : va_P D vwCl ([(h0, .inr (1, [.ref h1])), (h1, .inl (cI, nn, .inl g)), (o0, .inr (1, [.ref o1])), (o1, .inl (cI, nn, .inl g))]) H := P_congr (g := g) hP 1 rfl (fun j hj => cpF_at (by omega))
    have hD : va_D A ([(h0, .inr (1, [.ref h1])), (h1, .inl (cI, nn, .inl g)), (o0, .inr (1, [.ref o1])), (o1, .inl (cI, nn, .inl g))]) := hD.addr rfl
    subst hAe
    exact wr_v (w1 := fun (_ : Unit) => [(h0, .inr (1, [.ref h1])), (h1, .inl (cI, nn, .inl g)), (o0, .inr (1, [.ref o1])), (o1, .inl (cI, nn, .inl g))]) hx hb hr hlocks hS () hP dX1_take_28 trivial
  · skip
    refine lv_aload_n hx hb dX1_take_11 rfl (lv_at hl 0 rfl) ?_
    refine va_get (D := D) (ci := 1) (v := .ref h1) (C := RX1) (T := TX1) (N := 1) hx hb hg us_X1 hown hK.1 hP 0 rfl rfl 0 (by decide) (hg _ gm_24) (fun _ h9 => h9) rfl dX1_take_12 ?_
    refine lv_iload_n hx hb dX1_take_15 rfl (lv_at hl 2 rfl) ?_
    refine lv_aload_n hx hb dX1_take_16 rfl (lv_at hl 1 rfl) ?_
    refine lv_iload_n hx hb dX1_take_17 rfl (lv_at hl 2 rfl) ?_
    have hP_1 := hP.sub (ws' := [(o0, .inr (1, [.ref o1])), (o1, .inl (cI, nn, .inl g))]) [2, 3] rfl
    refine rdV (As := [.int (nI i)]) (rest := [.int (nI i), .ref h1]) hx hb hml hown hg (c_X1_at l D cI cB aS o0 o1 nn g i (by first | assumption | omega) (by first | assumption | omega)) gm_148 vf_X1_at ⟨Nat.le_of_ble_eq_true rfl, Nat.le_of_ble_eq_true rfl⟩ ⟨rfl, rfl⟩ ⟨Nat.zero_le _, Nat.zero_le _⟩ (RP.preV hK hP_1 (q0 := 0) (ci := 1) rfl rfl) rfl hl.1 rfl (Nat.le_of_ble_eq_true rfl) dX1_take_18 ?_
    refine nv_iast hx hb hK.1 hP hD hS 1 0 rfl rfl (by omega) (by omega) dX1_take_21 (fun H locs hP hD hS => ?_)
    have hP : va_P D vwCl ([(h0, .inr (1, [.ref h1])), (h1, .inl (cI, nn, .inl (upd (cpF g f i) i (g i)))), (o0, .inr (1, [.ref o1])), (o1, .inl (cI, nn, .inl g))]) H := hP
    have hD : va_D A ([(h0, .inr (1, [.ref h1])), (h1, .inl (cI, nn, .inl (upd (cpF g f i) i (g i)))), (o0, .inr (1, [.ref o1])), (o1, .inl (cI, nn, .inl g))]) := hD
    have e_2 : upd (cpF g f i) i (g i) = cpF g f (i + 1) := cpF_s rfl
    rw [e_2] at hP hD
    have hP : va_P D vwCl ([(h0, .inr (1, [.ref h1])), (h1, .inl (cI, nn, .inl (cpF g f (i + 1)))), (o0, .inr (1, [.ref o1])), (o1, .inl (cI, nn, .inl g))]) H := hP
    have hD : va_D A ([(h0, .inr (1, [.ref h1])), (h1, .inl (cI, nn, .inl (cpF g f (i + 1)))), (o0, .inr (1, [.ref o1])), (o1, .inl (cI, nn, .inl g))]) := hD
    refine lv_iinc (v := (nI (i + 1))) (lv' := [(2, .int (nI (i + 1))), (0, .ref h0), (1, .ref o0)]) hx hb dX1_take_22 hl (k := 2) rfl (nI_i1 _) (by decide) rfl (fun ls hl => ?_)
    refine lv_goto (tgt := 2) hx hb dX1_take_25 (by decide) ?_
    exact ih_2 () _ _ _ (by omega) (trivial) (lv_sub hl [1, 2, 0] rfl) hP (hD.addr rfl) hS
abbrev rm_X0_startAnew : Room := { frames := 1, cells := 0, slots := 0, locals := 21 }
theorem vf_X1_clear : vfacts RX1 yX1_clear cX1_clear 2 none 0 := ⟨⟨rfl, by decide +kernel, by decide +kernel, by decide +kernel⟩, gm_311, gm_312, gm_3, gm_313⟩
set_option maxRecDepth 100000 in
set_option maxHeartbeats 4000000 in
theorem c_X0_startAnew (l : Launch) (D : va_G) (cI cB : ClassId) (aS : Nat) (m0 m1 m2 m3 m4 m5 m6 m7 mb td nd nh : Nat) (bs : Int32) (bo : Nat → Int32) (hD0 : va_D (fun _ => True) ([(m0, .inr (0, [.int (nI td), .int bs, .int (nI nd), .int (nI nh), .ref m1, .ref m2, .ref m3, .ref m4, .ref m5, .ref m6, .ref m7])), (m3, .inr (1, [.ref mb])), (mb, .inl (cI, 6, .inl bo))])) : Met l yX0_startAnew (mw yX0_startAnew cX0_startAnew 1 none) rm_X0_startAnew (RP D cI cB aS ([(m0, .inr (0, [.int (nI td), .int bs, .int (nI nd), .int (nI nh), .ref m1, .ref m2, .ref m3, .ref m4, .ref m5, .ref m6, .ref m7])), (m3, .inr (1, [.ref mb])), (mb, .inl (cI, 6, .inl bo))]) [.ref m0]) (wq mkV ([(m0, .inr (0, [.int (nI td), .int bs, .int (nI nd), .int (nI nh), .ref m1, .ref m2, .ref m3, .ref m4, .ref m5, .ref m6, .ref m7])), (m3, .inr (1, [.ref mb])), (mb, .inl (cI, 6, .inl bo))]) (fun (_ : Unit) => [(m0, .inr (0, [.int (nI 0), .int (nI 0), .int (nI 0), .int (nI 0), .ref m1, .ref m2, .ref m3, .ref m4, .ref m5, .ref m6, .ref m7])), (m3, .inr (1, [.ref mb])), (mb, .inl (cI, 6, .inl (fun _ => nI 0)))]) D (fun (_ : Unit) (_ : Unit) => True)) 0 0 (inW ([(m0, .inr (0, [.int (nI td), .int bs, .int (nI nd), .int (nI nh), .ref m1, .ref m2, .ref m3, .ref m4, .ref m5, .ref m6, .ref m7])), (m3, .inr (1, [.ref mb])), (mb, .inl (cI, 6, .inl bo))])) := by
  refine met_of (by decide) (Nat.le_of_ble_eq_true rfl) ?_
  intro p e s m below meth c ls hx hb hr hml hown hg hlocks hin hK hP hl
  have hown : s.vm.findClass RX0 = some m.cls := hown
  have hl : lv_has ls 1 [(0, .ref m0)] := hl
  have hD := hD0.here
  have hS0 : va_S (inW ([(m0, .inr (0, [.int (nI td), .int bs, .int (nI nd), .int (nI nh), .ref m1, .ref m2, .ref m3, .ref m4, .ref m5, .ref m6, .ref m7])), (m3, .inr (1, [.ref mb])), (mb, .inl (cI, 6, .inl bo))])) s.heap s.heap [] := va_S.rf
  obtain ⟨H, hH⟩ : ∃ H, H = s.heap := ⟨_, rfl⟩
  have hS : va_S (inW ([(m0, .inr (0, [.int (nI td), .int bs, .int (nI nd), .int (nI nh), .ref m1, .ref m2, .ref m3, .ref m4, .ref m5, .ref m6, .ref m7])), (m3, .inr (1, [.ref mb])), (mb, .inl (cI, 6, .inl bo))])) s.heap H [] := by rw [hH]; exact hS0
  clear hS0
  rw [← hH] at hP ⊢
  generalize hAe : inW ([(m0, .inr (0, [.int (nI td), .int bs, .int (nI nd), .int (nI nh), .ref m1, .ref m2, .ref m3, .ref m4, .ref m5, .ref m6, .ref m7])), (m3, .inr (1, [.ref mb])), (mb, .inl (cI, 6, .inl bo))]) = A at hD hS ⊢
  refine lv_aload_n hx hb dX0_startAnew_0 rfl (lv_at hl 0 rfl) ?_
  refine lv_iconst (v := (nI 0)) hx hb dX0_startAnew_1 (by decide) ?_
  refine va_put (D := D) (ci := 0) (v := .int (nI 0)) (ty := .int) (C := RX0) (T := TX0) (N := 11) hx hb hg us_X0 tyX0 tyX0_ok nmX0 hown hK.1 hP hD hS 0 rfl rfl 0 (by decide) (hg _ gm_35) (fun _ h9 => h9) rfl (by decide +kernel) rfl rfl (Nat.le_of_ble_eq_true rfl) dX0_startAnew_2 (fun H locs hP hD hS => ?_)
  have hP : va_P D vwCl ([(m0, .inr (0, [.int (nI 0), .int bs, .int (nI nd), .int (nI nh), .ref m1, .ref m2, .ref m3, .ref m4, .ref m5, .ref m6, .ref m7])), (m3, .inr (1, [.ref mb])), (mb, .inl (cI, 6, .inl bo))]) H := hP
  have hD : va_D A ([(m0, .inr (0, [.int (nI 0), .int bs, .int (nI nd), .int (nI nh), .ref m1, .ref m2, .ref m3, .ref m4, .ref m5, .ref m6, .ref m7])), (m3, .inr (1, [.ref mb])), (mb, .inl (cI, 6, .inl bo))]) := hD
  refine lv_aload_n hx hb dX0_startAnew_5 rfl (lv_at hl 0 rfl) ?_
  refine lv_iconst (v := (nI 0)) hx hb dX0_startAnew_6 (by decide) ?_
  refine va_put (D := D) (ci := 0) (v := .int (nI 0)) (ty := .int) (C := RX0) (T := TX0) (N := 11) hx hb hg us_X0 tyX0 tyX0_ok nmX0 hown hK.1 hP hD hS 0 rfl rfl 1 (by decide) (hg _ gm_37) (fun _ h9 => h9) rfl (by decide +kernel) rfl rfl (Nat.le_of_ble_eq_true rfl) dX0_startAnew_7 (fun H locs hP hD hS => ?_)
  have hP : va_P D vwCl ([(m0, .inr (0, [.int (nI 0), .int (nI 0), .int (nI nd), .int (nI nh), .ref m1, .ref m2, .ref m3, .ref m4, .ref m5, .ref m6, .ref m7])), (m3, .inr (1, [.ref mb])), (mb, .inl (cI, 6, .inl bo))]) H := hP
  have hD : va_D A ([(m0, .inr (0, [.int (nI 0), .int (nI 0), .int (nI nd), .int (nI nh), .ref m1, .ref m2, .ref m3, .ref m4, .ref m5, .ref m6, .ref m7])), (m3, .inr (1, [.ref mb])), (mb, .inl (cI, 6, .inl bo))]) := hD
  refine lv_aload_n hx hb dX0_startAnew_10 rfl (lv_at hl 0 rfl) ?_
  refine lv_iconst (v := (nI 0)) hx hb dX0_startAnew_11 (by decide) ?_
  refine va_put (D := D) (ci := 0) (v := .int (nI 0)) (ty := .int) (C := RX0) (T := TX0) (N := 11) hx hb hg us_X0 tyX0 tyX0_ok nmX0 hown hK.1 hP hD hS 0 rfl rfl 2 (by decide) (hg _ gm_39) (fun _ h9 => h9) rfl (by decide +kernel) rfl rfl (Nat.le_of_ble_eq_true rfl) dX0_startAnew_12 (fun H locs hP hD hS => ?_)
  have hP : va_P D vwCl ([(m0, .inr (0, [.int (nI 0), .int (nI 0), .int (nI 0), .int (nI nh), .ref m1, .ref m2, .ref m3, .ref m4, .ref m5, .ref m6, .ref m7])), (m3, .inr (1, [.ref mb])), (mb, .inl (cI, 6, .inl bo))]) H := hP
  have hD : va_D A ([(m0, .inr (0, [.int (nI 0), .int (nI 0), .int (nI 0), .int (nI nh), .ref m1, .ref m2, .ref m3, .ref m4, .ref m5, .ref m6, .ref m7])), (m3, .inr (1, [.ref mb])), (mb, .inl (cI, 6, .inl bo))]) := hD
  refine lv_aload_n hx hb dX0_startAnew_15 rfl (lv_at hl 0 rfl) ?_
  refine lv_iconst (v := (nI 0)) hx hb dX0_startAnew_16 (by decide) ?_
  refine va_put (D := D) (ci := 0) (v := .int (nI 0)) (ty := .int) (C := RX0) (T := TX0) (N := 11) hx hb hg us_X0 tyX0 tyX0_ok nmX0 hown hK.1 hP hD hS 0 rfl rfl 3 (by decide) (hg _ gm_41) (fun _ h9 => h9) rfl (by decide +kernel) rfl rfl (Nat.le_of_ble_eq_true rfl) dX0_startAnew_17 (fun H locs hP hD hS => ?_)
  have hP : va_P D vwCl ([(m0, .inr (0, [.int (nI 0), .int (nI 0), .int (nI 0), .int (nI 0), .ref m1, .ref m2, .ref m3, .ref m4, .ref m5, .ref m6, .ref m7])), (m3, .inr (1, [.ref mb])), (mb, .inl (cI, 6, .inl bo))]) H := hP
  have hD : va_D A ([(m0, .inr (0, [.int (nI 0), .int (nI 0), .int (nI 0), .int (nI 0), .ref m1, .ref m2, .ref m3, .ref m4, .ref m5, .ref m6, .ref m7])), (m3, .inr (1, [.ref mb])), (mb, .inl (cI, 6, .inl bo))]) := hD
  refine lv_aload_n hx hb dX0_startAnew_20 rfl (lv_at hl 0 rfl) ?_
  refine va_get (D := D) (ci := 0) (v := .ref m3) (C := RX0) (T := TX0) (N := 11) hx hb hg us_X0 hown hK.1 hP 0 rfl rfl 6 (by decide) (hg _ gm_47) (fun _ h9 => h9) rfl dX0_startAnew_21 ?_
  have hP_1 := hP.sub (ws' := [(m3, .inr (1, [.ref mb])), (mb, .inl (cI, 6, .inl bo))]) [1, 2] rfl
  have hC_2 : ([1, 2] : List Nat).map (fun q_ => ([(m0, .inr (0, [.int (nI 0), .int (nI 0), .int (nI 0), .int (nI 0), .ref m1, .ref m2, .ref m3, .ref m4, .ref m5, .ref m6, .ref m7])), (m3, .inr (1, [.ref mb])), (mb, .inl (cI, 6, .inl bo))] : va_W)[q_]?) = List.map some ([(m3, .inr (1, [.ref mb])), (mb, .inl (cI, 6, .inl bo))] : va_W) := rfl
  have hDc_2 : va_D (fun _ => True) [(m3, .inr (1, [.ref mb])), (mb, .inl (cI, 6, .inl bo))] := (hD.sub (ws' := [(m3, .inr (1, [.ref mb])), (mb, .inl (cI, 6, .inl bo))]) [1, 2] (by decide) hC_2).weaken (fun _ _ _ _ => trivial)
  refine wrVv (As := []) (rest := []) hx hb hml hown hg (c_X1_clear l D cI cB aS m3 mb 6 bo hDc_2 (by first | assumption | omega)) gm_310 vf_X1_clear ⟨Nat.le_of_ble_eq_true rfl, Nat.le_of_ble_eq_true rfl⟩ ⟨rfl, rfl⟩ ⟨Nat.zero_le _, Nat.zero_le _⟩ (RP.preV hK hP_1 (q0 := 0) (ci := 1) rfl rfl) rfl hl.1 rfl (Nat.le_of_ble_eq_true rfl) dX0_startAnew_24 hS (inW_sub hD [1, 2] hC_2) (fun u_3 H1 locs hpo_3 hP1 hk1 hS => ?_)
  have hP : va_P D vwCl ([(m0, .inr (0, [.int (nI 0), .int (nI 0), .int (nI 0), .int (nI 0), .ref m1, .ref m2, .ref m3, .ref m4, .ref m5, .ref m6, .ref m7])), (m3, .inr (1, [.ref mb])), (mb, .inl (cI, 6, .inl (fun _ => nI 0)))]) H1 := wjoin (wc := [(m3, .inr (1, [.ref mb])), (mb, .inl (cI, 6, .inl bo))]) (w1 := [(m3, .inr (1, [.ref mb])), (mb, .inl (cI, 6, .inl (fun _ => nI 0)))]) hP hD [1, 2] hC_2 rfl hP1 hk1
  have hD : va_D A ([(m0, .inr (0, [.int (nI 0), .int (nI 0), .int (nI 0), .int (nI 0), .ref m1, .ref m2, .ref m3, .ref m4, .ref m5, .ref m6, .ref m7])), (m3, .inr (1, [.ref mb])), (mb, .inl (cI, 6, .inl (fun _ => nI 0)))]) := hD.addr rfl
  clear hP1 hk1
  generalize H1 = H at hP hS ⊢
  subst hAe
  exact wr_v (w1 := fun (_ : Unit) => [(m0, .inr (0, [.int (nI 0), .int (nI 0), .int (nI 0), .int (nI 0), .ref m1, .ref m2, .ref m3, .ref m4, .ref m5, .ref m6, .ref m7])), (m3, .inr (1, [.ref mb])), (mb, .inl (cI, 6, .inl (fun _ => nI 0)))]) hx hb hr hlocks hS () hP dX0_startAnew_27 trivial
end
section
def XW (cI : ClassId) (a : Nat → Nat) (pl n st : Nat) (ik : Int32) (td nd nh : Nat) (bs : Int32) (ktd knd knh : Nat) (kbs : Int32) (pg kd ag pa bo dm dn hh hn kag kpa kbo kdm kdn khh khn wb ps ty : Nat → Int32) : va_W := [(a 0, .inr (2, [.ref (a 1), .int (nI pl), .int (nI n), .int (nI st), .ref (a 3), .ref (a 5), .ref (a 20), .int ik, .ref (a 35), .ref (a 37), .ref (a 39)])),
  (a 1, .inr (1, [.ref (a 2)])),
  (a 2, .inl (cI, 19, .inl pg)),
  (a 3, .inr (1, [.ref (a 4)])),
  (a 4, .inl (cI, 6, .inl kd)),
  (a 5, .inr (0, [.int (nI td), .int bs, .int (nI nd), .int (nI nh), .ref (a 6), .ref (a 7), .ref (a 8), .ref (a 9), .ref (a 10), .ref (a 11), .ref (a 12)])),
  (a 6, .inr (1, [.ref (a 13)])),
  (a 7, .inr (1, [.ref (a 14)])),
  (a 8, .inr (1, [.ref (a 15)])),
  (a 9, .inr (1, [.ref (a 16)])),
  (a 10, .inr (1, [.ref (a 17)])),
  (a 11, .inr (1, [.ref (a 18)])),
  (a 12, .inr (1, [.ref (a 19)])),
  (a 13, .inl (cI, 6, .inl ag)),
  (a 14, .inl (cI, 180, .inl pa)),
  (a 15, .inl (cI, 6, .inl bo)),
  (a 16, .inl (cI, 6, .inl dm)),
  (a 17, .inl (cI, 6, .inl dn)),
  (a 18, .inl (cI, 6, .inl hh)),
  (a 19, .inl (cI, 6, .inl hn)),
  (a 20, .inr (0, [.int (nI ktd), .int kbs, .int (nI knd), .int (nI knh), .ref (a 21), .ref (a 22), .ref (a 23), .ref (a 24), .ref (a 25), .ref (a 26), .ref (a 27)])),
  (a 21, .inr (1, [.ref (a 28)])),
  (a 22, .inr (1, [.ref (a 29)])),
  (a 23, .inr (1, [.ref (a 30)])),
  (a 24, .inr (1, [.ref (a 31)])),
  (a 25, .inr (1, [.ref (a 32)])),
  (a 26, .inr (1, [.ref (a 33)])),
  (a 27, .inr (1, [.ref (a 34)])),
  (a 28, .inl (cI, 6, .inl kag)),
  (a 29, .inl (cI, 180, .inl kpa)),
  (a 30, .inl (cI, 6, .inl kbo)),
  (a 31, .inl (cI, 6, .inl kdm)),
  (a 32, .inl (cI, 6, .inl kdn)),
  (a 33, .inl (cI, 6, .inl khh)),
  (a 34, .inl (cI, 6, .inl khn)),
  (a 35, .inr (1, [.ref (a 36)])),
  (a 36, .inl (cI, 6, .inl wb)),
  (a 37, .inr (1, [.ref (a 38)])),
  (a 38, .inl (cI, 31, .inl ps)),
  (a 39, .inr (1, [.ref (a 40)])),
  (a 40, .inl (cI, 40, .inl ty))]
theorem nl_112 {D : va_G} {cI cB : ClassId} {aS : Nat} {s : State} {args : Array Value} (hK : KP D cI cB aS s) : (Cond.fieldLinkNest RX2 112 "BirthStreet$Moment" "today" "I" RX2).before args s = true := va_Nw.use rfl (hK.2.1 (RX2, 112, "BirthStreet$Moment", "today", "I", RX2) (List.mem_of_getElem? (i := 0) rfl))
theorem nl_103 {D : va_G} {cI cB : ClassId} {aS : Nat} {s : State} {args : Array Value} (hK : KP D cI cB aS s) : (Cond.fieldLinkNest RX2 103 "BirthStreet$Moment" "births" "I" RX2).before args s = true := va_Nw.use rfl (hK.2.1 (RX2, 103, "BirthStreet$Moment", "births", "I", RX2) (List.mem_of_getElem? (i := 1) rfl))
theorem nl_139 {D : va_G} {cI cB : ClassId} {aS : Nat} {s : State} {args : Array Value} (hK : KP D cI cB aS s) : (Cond.fieldLinkNest RX2 139 "BirthStreet$Moment" "debts" "I" RX2).before args s = true := va_Nw.use rfl (hK.2.1 (RX2, 139, "BirthStreet$Moment", "debts", "I", RX2) (List.mem_of_getElem? (i := 2) rfl))
theorem nl_162 {D : va_G} {cI cB : ClassId} {aS : Nat} {s : State} {args : Array Value} (hK : KP D cI cB aS s) : (Cond.fieldLinkNest RX2 162 "BirthStreet$Moment" "heard" "I" RX2).before args s = true := va_Nw.use rfl (hK.2.1 (RX2, 162, "BirthStreet$Moment", "heard", "I", RX2) (List.mem_of_getElem? (i := 3) rfl))
theorem nl_76 {D : va_G} {cI cB : ClassId} {aS : Nat} {s : State} {args : Array Value} (hK : KP D cI cB aS s) : (Cond.fieldLinkNest RX2 76 "BirthStreet$Moment" "ages" "LBirthStreet$Row;" RX2).before args s = true := va_Nw.use rfl (hK.2.1 (RX2, 76, "BirthStreet$Moment", "ages", "LBirthStreet$Row;", RX2) (List.mem_of_getElem? (i := 4) rfl))
theorem nl_115 {D : va_G} {cI cB : ClassId} {aS : Nat} {s : State} {args : Array Value} (hK : KP D cI cB aS s) : (Cond.fieldLinkNest RX2 115 "BirthStreet$Moment" "pastAges" "LBirthStreet$Row;" RX2).before args s = true := va_Nw.use rfl (hK.2.1 (RX2, 115, "BirthStreet$Moment", "pastAges", "LBirthStreet$Row;", RX2) (List.mem_of_getElem? (i := 5) rfl))
theorem nl_86 {D : va_G} {cI cB : ClassId} {aS : Nat} {s : State} {args : Array Value} (hK : KP D cI cB aS s) : (Cond.fieldLinkNest RX2 86 "BirthStreet$Moment" "birthsIn" "LBirthStreet$Row;" RX2).before args s = true := va_Nw.use rfl (hK.2.1 (RX2, 86, "BirthStreet$Moment", "birthsIn", "LBirthStreet$Row;", RX2) (List.mem_of_getElem? (i := 6) rfl))
theorem nl_142 {D : va_G} {cI cB : ClassId} {aS : Nat} {s : State} {args : Array Value} (hK : KP D cI cB aS s) : (Cond.fieldLinkNest RX2 142 "BirthStreet$Moment" "debtAmounts" "LBirthStreet$Row;" RX2).before args s = true := va_Nw.use rfl (hK.2.1 (RX2, 142, "BirthStreet$Moment", "debtAmounts", "LBirthStreet$Row;", RX2) (List.mem_of_getElem? (i := 7) rfl))
theorem nl_145 {D : va_G} {cI cB : ClassId} {aS : Nat} {s : State} {args : Array Value} (hK : KP D cI cB aS s) : (Cond.fieldLinkNest RX2 145 "BirthStreet$Moment" "debtNumbers" "LBirthStreet$Row;" RX2).before args s = true := va_Nw.use rfl (hK.2.1 (RX2, 145, "BirthStreet$Moment", "debtNumbers", "LBirthStreet$Row;", RX2) (List.mem_of_getElem? (i := 8) rfl))
def XA (a : Nat → Nat) : List Nat := [a 0, a 1, a 2, a 3, a 4, a 5, a 6, a 7, a 8, a 9, a 10, a 11, a 12, a 13, a 14, a 15, a 16, a 17, a 18, a 19, a 20, a 21, a 22, a 23, a 24, a 25, a 26, a 27, a 28, a 29, a 30, a 31, a 32, a 33, a 34, a 35, a 36, a 37, a 38, a 39, a 40]
theorem XW_addr {cI : ClassId} {a : Nat → Nat} {pl n st : Nat} {ik : Int32} {td nd nh : Nat} {bs : Int32} {ktd knd knh : Nat} {kbs : Int32} {pg kd ag pa bo dm dn hh hn kag kpa kbo kdm kdn khh khn wb ps ty : Nat → Int32} : (XW cI a pl n st ik td nd nh bs ktd knd knh kbs pg kd ag pa bo dm dn hh hn kag kpa kbo kdm kdn khh khn wb ps ty).map (fun q => q.1) = XA a := rfl
theorem XW_g0 {cI : ClassId} {a : Nat → Nat} {pl n st : Nat} {ik : Int32} {td nd nh : Nat} {bs : Int32} {ktd knd knh : Nat} {kbs : Int32} {pg kd ag pa bo dm dn hh hn kag kpa kbo kdm kdn khh khn wb ps ty : Nat → Int32} : (XW cI a pl n st ik td nd nh bs ktd knd knh kbs pg kd ag pa bo dm dn hh hn kag kpa kbo kdm kdn khh khn wb ps ty)[0]? = some (a 0, .inr (2, [.ref (a 1), .int (nI pl), .int (nI n), .int (nI st), .ref (a 3), .ref (a 5), .ref (a 20), .int ik, .ref (a 35), .ref (a 37), .ref (a 39)])) := rfl
theorem XW_g1 {cI : ClassId} {a : Nat → Nat} {pl n st : Nat} {ik : Int32} {td nd nh : Nat} {bs : Int32} {ktd knd knh : Nat} {kbs : Int32} {pg kd ag pa bo dm dn hh hn kag kpa kbo kdm kdn khh khn wb ps ty : Nat → Int32} : (XW cI a pl n st ik td nd nh bs ktd knd knh kbs pg kd ag pa bo dm dn hh hn kag kpa kbo kdm kdn khh khn wb ps ty)[1]? = some (a 1, .inr (1, [.ref (a 2)])) := rfl
theorem XW_g2 {cI : ClassId} {a : Nat → Nat} {pl n st : Nat} {ik : Int32} {td nd nh : Nat} {bs : Int32} {ktd knd knh : Nat} {kbs : Int32} {pg kd ag pa bo dm dn hh hn kag kpa kbo kdm kdn khh khn wb ps ty : Nat → Int32} : (XW cI a pl n st ik td nd nh bs ktd knd knh kbs pg kd ag pa bo dm dn hh hn kag kpa kbo kdm kdn khh khn wb ps ty)[2]? = some (a 2, .inl (cI, 19, .inl pg)) := rfl
theorem XW_g3 {cI : ClassId} {a : Nat → Nat} {pl n st : Nat} {ik : Int32} {td nd nh : Nat} {bs : Int32} {ktd knd knh : Nat} {kbs : Int32} {pg kd ag pa bo dm dn hh hn kag kpa kbo kdm kdn khh khn wb ps ty : Nat → Int32} : (XW cI a pl n st ik td nd nh bs ktd knd knh kbs pg kd ag pa bo dm dn hh hn kag kpa kbo kdm kdn khh khn wb ps ty)[3]? = some (a 3, .inr (1, [.ref (a 4)])) := rfl
theorem XW_g4 {cI : ClassId} {a : Nat → Nat} {pl n st : Nat} {ik : Int32} {td nd nh : Nat} {bs : Int32} {ktd knd knh : Nat} {kbs : Int32} {pg kd ag pa bo dm dn hh hn kag kpa kbo kdm kdn khh khn wb ps ty : Nat → Int32} : (XW cI a pl n st ik td nd nh bs ktd knd knh kbs pg kd ag pa bo dm dn hh hn kag kpa kbo kdm kdn khh khn wb ps ty)[4]? = some (a 4, .inl (cI, 6, .inl kd)) := rfl
theorem XW_g5 {cI : ClassId} {a : Nat → Nat} {pl n st : Nat} {ik : Int32} {td nd nh : Nat} {bs : Int32} {ktd knd knh : Nat} {kbs : Int32} {pg kd ag pa bo dm dn hh hn kag kpa kbo kdm kdn khh khn wb ps ty : Nat → Int32} : (XW cI a pl n st ik td nd nh bs ktd knd knh kbs pg kd ag pa bo dm dn hh hn kag kpa kbo kdm kdn khh khn wb ps ty)[5]? = some (a 5, .inr (0, [.int (nI td), .int bs, .int (nI nd), .int (nI nh), .ref (a 6), .ref (a 7), .ref (a 8), .ref (a 9), .ref (a 10), .ref (a 11), .ref (a 12)])) := rfl
theorem XW_g6 {cI : ClassId} {a : Nat → Nat} {pl n st : Nat} {ik : Int32} {td nd nh : Nat} {bs : Int32} {ktd knd knh : Nat} {kbs : Int32} {pg kd ag pa bo dm dn hh hn kag kpa kbo kdm kdn khh khn wb ps ty : Nat → Int32} : (XW cI a pl n st ik td nd nh bs ktd knd knh kbs pg kd ag pa bo dm dn hh hn kag kpa kbo kdm kdn khh khn wb ps ty)[6]? = some (a 6, .inr (1, [.ref (a 13)])) := rfl
theorem XW_g7 {cI : ClassId} {a : Nat → Nat} {pl n st : Nat} {ik : Int32} {td nd nh : Nat} {bs : Int32} {ktd knd knh : Nat} {kbs : Int32} {pg kd ag pa bo dm dn hh hn kag kpa kbo kdm kdn khh khn wb ps ty : Nat → Int32} : (XW cI a pl n st ik td nd nh bs ktd knd knh kbs pg kd ag pa bo dm dn hh hn kag kpa kbo kdm kdn khh khn wb ps ty)[7]? = some (a 7, .inr (1, [.ref (a 14)])) := rfl
theorem XW_g8 {cI : ClassId} {a : Nat → Nat} {pl n st : Nat} {ik : Int32} {td nd nh : Nat} {bs : Int32} {ktd knd knh : Nat} {kbs : Int32} {pg kd ag pa bo dm dn hh hn kag kpa kbo kdm kdn khh khn wb ps ty : Nat → Int32} : (XW cI a pl n st ik td nd nh bs ktd knd knh kbs pg kd ag pa bo dm dn hh hn kag kpa kbo kdm kdn khh khn wb ps ty)[8]? = some (a 8, .inr (1, [.ref (a 15)])) := rfl
theorem XW_g9 {cI : ClassId} {a : Nat → Nat} {pl n st : Nat} {ik : Int32} {td nd nh : Nat} {bs : Int32} {ktd knd knh : Nat} {kbs : Int32} {pg kd ag pa bo dm dn hh hn kag kpa kbo kdm kdn khh khn wb ps ty : Nat → Int32} : (XW cI a pl n st ik td nd nh bs ktd knd knh kbs pg kd ag pa bo dm dn hh hn kag kpa kbo kdm kdn khh khn wb ps ty)[9]? = some (a 9, .inr (1, [.ref (a 16)])) := rfl
theorem XW_g10 {cI : ClassId} {a : Nat → Nat} {pl n st : Nat} {ik : Int32} {td nd nh : Nat} {bs : Int32} {ktd knd knh : Nat} {kbs : Int32} {pg kd ag pa bo dm dn hh hn kag kpa kbo kdm kdn khh khn wb ps ty : Nat → Int32} : (XW cI a pl n st ik td nd nh bs ktd knd knh kbs pg kd ag pa bo dm dn hh hn kag kpa kbo kdm kdn khh khn wb ps ty)[10]? = some (a 10, .inr (1, [.ref (a 17)])) := rfl
theorem XW_g11 {cI : ClassId} {a : Nat → Nat} {pl n st : Nat} {ik : Int32} {td nd nh : Nat} {bs : Int32} {ktd knd knh : Nat} {kbs : Int32} {pg kd ag pa bo dm dn hh hn kag kpa kbo kdm kdn khh khn wb ps ty : Nat → Int32} : (XW cI a pl n st ik td nd nh bs ktd knd knh kbs pg kd ag pa bo dm dn hh hn kag kpa kbo kdm kdn khh khn wb ps ty)[11]? = some (a 11, .inr (1, [.ref (a 18)])) := rfl
theorem XW_g12 {cI : ClassId} {a : Nat → Nat} {pl n st : Nat} {ik : Int32} {td nd nh : Nat} {bs : Int32} {ktd knd knh : Nat} {kbs : Int32} {pg kd ag pa bo dm dn hh hn kag kpa kbo kdm kdn khh khn wb ps ty : Nat → Int32} : (XW cI a pl n st ik td nd nh bs ktd knd knh kbs pg kd ag pa bo dm dn hh hn kag kpa kbo kdm kdn khh khn wb ps ty)[12]? = some (a 12, .inr (1, [.ref (a 19)])) := rfl
theorem XW_g13 {cI : ClassId} {a : Nat → Nat} {pl n st : Nat} {ik : Int32} {td nd nh : Nat} {bs : Int32} {ktd knd knh : Nat} {kbs : Int32} {pg kd ag pa bo dm dn hh hn kag kpa kbo kdm kdn khh khn wb ps ty : Nat → Int32} : (XW cI a pl n st ik td nd nh bs ktd knd knh kbs pg kd ag pa bo dm dn hh hn kag kpa kbo kdm kdn khh khn wb ps ty)[13]? = some (a 13, .inl (cI, 6, .inl ag)) := rfl
theorem XW_g14 {cI : ClassId} {a : Nat → Nat} {pl n st : Nat} {ik : Int32} {td nd nh : Nat} {bs : Int32} {ktd knd knh : Nat} {kbs : Int32} {pg kd ag pa bo dm dn hh hn kag kpa kbo kdm kdn khh khn wb ps ty : Nat → Int32} : (XW cI a pl n st ik td nd nh bs ktd knd knh kbs pg kd ag pa bo dm dn hh hn kag kpa kbo kdm kdn khh khn wb ps ty)[14]? = some (a 14, .inl (cI, 180, .inl pa)) := rfl
theorem XW_g15 {cI : ClassId} {a : Nat → Nat} {pl n st : Nat} {ik : Int32} {td nd nh : Nat} {bs : Int32} {ktd knd knh : Nat} {kbs : Int32} {pg kd ag pa bo dm dn hh hn kag kpa kbo kdm kdn khh khn wb ps ty : Nat → Int32} : (XW cI a pl n st ik td nd nh bs ktd knd knh kbs pg kd ag pa bo dm dn hh hn kag kpa kbo kdm kdn khh khn wb ps ty)[15]? = some (a 15, .inl (cI, 6, .inl bo)) := rfl
theorem XW_g16 {cI : ClassId} {a : Nat → Nat} {pl n st : Nat} {ik : Int32} {td nd nh : Nat} {bs : Int32} {ktd knd knh : Nat} {kbs : Int32} {pg kd ag pa bo dm dn hh hn kag kpa kbo kdm kdn khh khn wb ps ty : Nat → Int32} : (XW cI a pl n st ik td nd nh bs ktd knd knh kbs pg kd ag pa bo dm dn hh hn kag kpa kbo kdm kdn khh khn wb ps ty)[16]? = some (a 16, .inl (cI, 6, .inl dm)) := rfl
theorem XW_g17 {cI : ClassId} {a : Nat → Nat} {pl n st : Nat} {ik : Int32} {td nd nh : Nat} {bs : Int32} {ktd knd knh : Nat} {kbs : Int32} {pg kd ag pa bo dm dn hh hn kag kpa kbo kdm kdn khh khn wb ps ty : Nat → Int32} : (XW cI a pl n st ik td nd nh bs ktd knd knh kbs pg kd ag pa bo dm dn hh hn kag kpa kbo kdm kdn khh khn wb ps ty)[17]? = some (a 17, .inl (cI, 6, .inl dn)) := rfl
theorem XW_g18 {cI : ClassId} {a : Nat → Nat} {pl n st : Nat} {ik : Int32} {td nd nh : Nat} {bs : Int32} {ktd knd knh : Nat} {kbs : Int32} {pg kd ag pa bo dm dn hh hn kag kpa kbo kdm kdn khh khn wb ps ty : Nat → Int32} : (XW cI a pl n st ik td nd nh bs ktd knd knh kbs pg kd ag pa bo dm dn hh hn kag kpa kbo kdm kdn khh khn wb ps ty)[18]? = some (a 18, .inl (cI, 6, .inl hh)) := rfl
theorem XW_g19 {cI : ClassId} {a : Nat → Nat} {pl n st : Nat} {ik : Int32} {td nd nh : Nat} {bs : Int32} {ktd knd knh : Nat} {kbs : Int32} {pg kd ag pa bo dm dn hh hn kag kpa kbo kdm kdn khh khn wb ps ty : Nat → Int32} : (XW cI a pl n st ik td nd nh bs ktd knd knh kbs pg kd ag pa bo dm dn hh hn kag kpa kbo kdm kdn khh khn wb ps ty)[19]? = some (a 19, .inl (cI, 6, .inl hn)) := rfl
theorem XW_g20 {cI : ClassId} {a : Nat → Nat} {pl n st : Nat} {ik : Int32} {td nd nh : Nat} {bs : Int32} {ktd knd knh : Nat} {kbs : Int32} {pg kd ag pa bo dm dn hh hn kag kpa kbo kdm kdn khh khn wb ps ty : Nat → Int32} : (XW cI a pl n st ik td nd nh bs ktd knd knh kbs pg kd ag pa bo dm dn hh hn kag kpa kbo kdm kdn khh khn wb ps ty)[20]? = some (a 20, .inr (0, [.int (nI ktd), .int kbs, .int (nI knd), .int (nI knh), .ref (a 21), .ref (a 22), .ref (a 23), .ref (a 24), .ref (a 25), .ref (a 26), .ref (a 27)])) := rfl
theorem XW_g21 {cI : ClassId} {a : Nat → Nat} {pl n st : Nat} {ik : Int32} {td nd nh : Nat} {bs : Int32} {ktd knd knh : Nat} {kbs : Int32} {pg kd ag pa bo dm dn hh hn kag kpa kbo kdm kdn khh khn wb ps ty : Nat → Int32} : (XW cI a pl n st ik td nd nh bs ktd knd knh kbs pg kd ag pa bo dm dn hh hn kag kpa kbo kdm kdn khh khn wb ps ty)[21]? = some (a 21, .inr (1, [.ref (a 28)])) := rfl
theorem XW_g22 {cI : ClassId} {a : Nat → Nat} {pl n st : Nat} {ik : Int32} {td nd nh : Nat} {bs : Int32} {ktd knd knh : Nat} {kbs : Int32} {pg kd ag pa bo dm dn hh hn kag kpa kbo kdm kdn khh khn wb ps ty : Nat → Int32} : (XW cI a pl n st ik td nd nh bs ktd knd knh kbs pg kd ag pa bo dm dn hh hn kag kpa kbo kdm kdn khh khn wb ps ty)[22]? = some (a 22, .inr (1, [.ref (a 29)])) := rfl
theorem XW_g23 {cI : ClassId} {a : Nat → Nat} {pl n st : Nat} {ik : Int32} {td nd nh : Nat} {bs : Int32} {ktd knd knh : Nat} {kbs : Int32} {pg kd ag pa bo dm dn hh hn kag kpa kbo kdm kdn khh khn wb ps ty : Nat → Int32} : (XW cI a pl n st ik td nd nh bs ktd knd knh kbs pg kd ag pa bo dm dn hh hn kag kpa kbo kdm kdn khh khn wb ps ty)[23]? = some (a 23, .inr (1, [.ref (a 30)])) := rfl
theorem XW_g24 {cI : ClassId} {a : Nat → Nat} {pl n st : Nat} {ik : Int32} {td nd nh : Nat} {bs : Int32} {ktd knd knh : Nat} {kbs : Int32} {pg kd ag pa bo dm dn hh hn kag kpa kbo kdm kdn khh khn wb ps ty : Nat → Int32} : (XW cI a pl n st ik td nd nh bs ktd knd knh kbs pg kd ag pa bo dm dn hh hn kag kpa kbo kdm kdn khh khn wb ps ty)[24]? = some (a 24, .inr (1, [.ref (a 31)])) := rfl
theorem XW_g25 {cI : ClassId} {a : Nat → Nat} {pl n st : Nat} {ik : Int32} {td nd nh : Nat} {bs : Int32} {ktd knd knh : Nat} {kbs : Int32} {pg kd ag pa bo dm dn hh hn kag kpa kbo kdm kdn khh khn wb ps ty : Nat → Int32} : (XW cI a pl n st ik td nd nh bs ktd knd knh kbs pg kd ag pa bo dm dn hh hn kag kpa kbo kdm kdn khh khn wb ps ty)[25]? = some (a 25, .inr (1, [.ref (a 32)])) := rfl
theorem XW_g26 {cI : ClassId} {a : Nat → Nat} {pl n st : Nat} {ik : Int32} {td nd nh : Nat} {bs : Int32} {ktd knd knh : Nat} {kbs : Int32} {pg kd ag pa bo dm dn hh hn kag kpa kbo kdm kdn khh khn wb ps ty : Nat → Int32} : (XW cI a pl n st ik td nd nh bs ktd knd knh kbs pg kd ag pa bo dm dn hh hn kag kpa kbo kdm kdn khh khn wb ps ty)[26]? = some (a 26, .inr (1, [.ref (a 33)])) := rfl
theorem XW_g27 {cI : ClassId} {a : Nat → Nat} {pl n st : Nat} {ik : Int32} {td nd nh : Nat} {bs : Int32} {ktd knd knh : Nat} {kbs : Int32} {pg kd ag pa bo dm dn hh hn kag kpa kbo kdm kdn khh khn wb ps ty : Nat → Int32} : (XW cI a pl n st ik td nd nh bs ktd knd knh kbs pg kd ag pa bo dm dn hh hn kag kpa kbo kdm kdn khh khn wb ps ty)[27]? = some (a 27, .inr (1, [.ref (a 34)])) := rfl
theorem XW_g28 {cI : ClassId} {a : Nat → Nat} {pl n st : Nat} {ik : Int32} {td nd nh : Nat} {bs : Int32} {ktd knd knh : Nat} {kbs : Int32} {pg kd ag pa bo dm dn hh hn kag kpa kbo kdm kdn khh khn wb ps ty : Nat → Int32} : (XW cI a pl n st ik td nd nh bs ktd knd knh kbs pg kd ag pa bo dm dn hh hn kag kpa kbo kdm kdn khh khn wb ps ty)[28]? = some (a 28, .inl (cI, 6, .inl kag)) := rfl
theorem XW_g29 {cI : ClassId} {a : Nat → Nat} {pl n st : Nat} {ik : Int32} {td nd nh : Nat} {bs : Int32} {ktd knd knh : Nat} {kbs : Int32} {pg kd ag pa bo dm dn hh hn kag kpa kbo kdm kdn khh khn wb ps ty : Nat → Int32} : (XW cI a pl n st ik td nd nh bs ktd knd knh kbs pg kd ag pa bo dm dn hh hn kag kpa kbo kdm kdn khh khn wb ps ty)[29]? = some (a 29, .inl (cI, 180, .inl kpa)) := rfl
theorem XW_g30 {cI : ClassId} {a : Nat → Nat} {pl n st : Nat} {ik : Int32} {td nd nh : Nat} {bs : Int32} {ktd knd knh : Nat} {kbs : Int32} {pg kd ag pa bo dm dn hh hn kag kpa kbo kdm kdn khh khn wb ps ty : Nat → Int32} : (XW cI a pl n st ik td nd nh bs ktd knd knh kbs pg kd ag pa bo dm dn hh hn kag kpa kbo kdm kdn khh khn wb ps ty)[30]? = some (a 30, .inl (cI, 6, .inl kbo)) := rfl
theorem XW_g31 {cI : ClassId} {a : Nat → Nat} {pl n st : Nat} {ik : Int32} {td nd nh : Nat} {bs : Int32} {ktd knd knh : Nat} {kbs : Int32} {pg kd ag pa bo dm dn hh hn kag kpa kbo kdm kdn khh khn wb ps ty : Nat → Int32} : (XW cI a pl n st ik td nd nh bs ktd knd knh kbs pg kd ag pa bo dm dn hh hn kag kpa kbo kdm kdn khh khn wb ps ty)[31]? = some (a 31, .inl (cI, 6, .inl kdm)) := rfl
theorem XW_g32 {cI : ClassId} {a : Nat → Nat} {pl n st : Nat} {ik : Int32} {td nd nh : Nat} {bs : Int32} {ktd knd knh : Nat} {kbs : Int32} {pg kd ag pa bo dm dn hh hn kag kpa kbo kdm kdn khh khn wb ps ty : Nat → Int32} : (XW cI a pl n st ik td nd nh bs ktd knd knh kbs pg kd ag pa bo dm dn hh hn kag kpa kbo kdm kdn khh khn wb ps ty)[32]? = some (a 32, .inl (cI, 6, .inl kdn)) := rfl
theorem XW_g33 {cI : ClassId} {a : Nat → Nat} {pl n st : Nat} {ik : Int32} {td nd nh : Nat} {bs : Int32} {ktd knd knh : Nat} {kbs : Int32} {pg kd ag pa bo dm dn hh hn kag kpa kbo kdm kdn khh khn wb ps ty : Nat → Int32} : (XW cI a pl n st ik td nd nh bs ktd knd knh kbs pg kd ag pa bo dm dn hh hn kag kpa kbo kdm kdn khh khn wb ps ty)[33]? = some (a 33, .inl (cI, 6, .inl khh)) := rfl
theorem XW_g34 {cI : ClassId} {a : Nat → Nat} {pl n st : Nat} {ik : Int32} {td nd nh : Nat} {bs : Int32} {ktd knd knh : Nat} {kbs : Int32} {pg kd ag pa bo dm dn hh hn kag kpa kbo kdm kdn khh khn wb ps ty : Nat → Int32} : (XW cI a pl n st ik td nd nh bs ktd knd knh kbs pg kd ag pa bo dm dn hh hn kag kpa kbo kdm kdn khh khn wb ps ty)[34]? = some (a 34, .inl (cI, 6, .inl khn)) := rfl
theorem XW_g35 {cI : ClassId} {a : Nat → Nat} {pl n st : Nat} {ik : Int32} {td nd nh : Nat} {bs : Int32} {ktd knd knh : Nat} {kbs : Int32} {pg kd ag pa bo dm dn hh hn kag kpa kbo kdm kdn khh khn wb ps ty : Nat → Int32} : (XW cI a pl n st ik td nd nh bs ktd knd knh kbs pg kd ag pa bo dm dn hh hn kag kpa kbo kdm kdn khh khn wb ps ty)[35]? = some (a 35, .inr (1, [.ref (a 36)])) := rfl
theorem XW_g36 {cI : ClassId} {a : Nat → Nat} {pl n st : Nat} {ik : Int32} {td nd nh : Nat} {bs : Int32} {ktd knd knh : Nat} {kbs : Int32} {pg kd ag pa bo dm dn hh hn kag kpa kbo kdm kdn khh khn wb ps ty : Nat → Int32} : (XW cI a pl n st ik td nd nh bs ktd knd knh kbs pg kd ag pa bo dm dn hh hn kag kpa kbo kdm kdn khh khn wb ps ty)[36]? = some (a 36, .inl (cI, 6, .inl wb)) := rfl
theorem XW_g37 {cI : ClassId} {a : Nat → Nat} {pl n st : Nat} {ik : Int32} {td nd nh : Nat} {bs : Int32} {ktd knd knh : Nat} {kbs : Int32} {pg kd ag pa bo dm dn hh hn kag kpa kbo kdm kdn khh khn wb ps ty : Nat → Int32} : (XW cI a pl n st ik td nd nh bs ktd knd knh kbs pg kd ag pa bo dm dn hh hn kag kpa kbo kdm kdn khh khn wb ps ty)[37]? = some (a 37, .inr (1, [.ref (a 38)])) := rfl
theorem XW_g38 {cI : ClassId} {a : Nat → Nat} {pl n st : Nat} {ik : Int32} {td nd nh : Nat} {bs : Int32} {ktd knd knh : Nat} {kbs : Int32} {pg kd ag pa bo dm dn hh hn kag kpa kbo kdm kdn khh khn wb ps ty : Nat → Int32} : (XW cI a pl n st ik td nd nh bs ktd knd knh kbs pg kd ag pa bo dm dn hh hn kag kpa kbo kdm kdn khh khn wb ps ty)[38]? = some (a 38, .inl (cI, 31, .inl ps)) := rfl
theorem XW_g39 {cI : ClassId} {a : Nat → Nat} {pl n st : Nat} {ik : Int32} {td nd nh : Nat} {bs : Int32} {ktd knd knh : Nat} {kbs : Int32} {pg kd ag pa bo dm dn hh hn kag kpa kbo kdm kdn khh khn wb ps ty : Nat → Int32} : (XW cI a pl n st ik td nd nh bs ktd knd knh kbs pg kd ag pa bo dm dn hh hn kag kpa kbo kdm kdn khh khn wb ps ty)[39]? = some (a 39, .inr (1, [.ref (a 40)])) := rfl
theorem XW_g40 {cI : ClassId} {a : Nat → Nat} {pl n st : Nat} {ik : Int32} {td nd nh : Nat} {bs : Int32} {ktd knd knh : Nat} {kbs : Int32} {pg kd ag pa bo dm dn hh hn kag kpa kbo kdm kdn khh khn wb ps ty : Nat → Int32} : (XW cI a pl n st ik td nd nh bs ktd knd knh kbs pg kd ag pa bo dm dn hh hn kag kpa kbo kdm kdn khh khn wb ps ty)[40]? = some (a 40, .inl (cI, 40, .inl ty)) := rfl
abbrev rm_X2_isA : Room := { frames := 0, cells := 0, slots := 0, locals := 0 }
set_option maxRecDepth 100000 in
set_option maxHeartbeats 4000000 in
theorem c_X2_isA (l : Launch) (D : va_G) (cI cB : ClassId) (aS : Nat) (k w : Int32)  : Met l yX2_isA (mw yX2_isA cX2_isA 2 (some .boolean)) rm_X2_isA (RP D cI cB aS ([]) [.int k, .int w]) (vp_Si (fun r => r = (bi (isAF k w)))) 0 0 (fun _ => False) := by
  refine met_of (by decide) (Nat.le_of_ble_eq_true rfl) ?_
  intro p e s m below meth c ls hx hb hr hml hown hg hlocks hin hK hP hl
  have hown : s.vm.findClass RX2 = some m.cls := hown
  have hl : lv_has ls 2 [(0, .int k), (1, .int w)] := hl
  refine lv_iload_n hx hb dX2_isA_0 rfl (lv_at hl 1 rfl) ?_
  refine lv_if_eq (tgt := 19) hx hb dX2_isA_1 (by decide) (fun (c_1 : w = nI 0) => ?_) (fun (c_1 : ¬ w = nI 0) => ?_)
  · skip
    refine lv_iconst (v := (nI 1)) hx hb dX2_isA_19 (by decide) ?_
    refine lv_goto (tgt := 24) hx hb dX2_isA_20 (by decide) ?_
    exact rr_z hx hb hr hlocks dX2_isA_24 bi_nar (ret_t (Or.inl c_1))
  · skip
    refine lv_iload_n hx hb dX2_isA_4 rfl (lv_at hl 1 rfl) ?_
    refine lv_iload_n hx hb dX2_isA_5 rfl (lv_at hl 0 rfl) ?_
    refine lv_icmp_eq (tgt := 19) hx hb dX2_isA_6 (by decide) (fun c_6 => ?_) (fun c_6 => ?_)
    · skip
      refine lv_iconst (v := (nI 1)) hx hb dX2_isA_19 (by decide) ?_
      refine lv_goto (tgt := 24) hx hb dX2_isA_20 (by decide) ?_
      exact rr_z hx hb hr hlocks dX2_isA_24 bi_nar (ret_t (Or.inr (Or.inl c_6)))
    · skip
      refine lv_iload_n hx hb dX2_isA_9 rfl (lv_at hl 1 rfl) ?_
      refine lv_iconst (v := (nI 2)) hx hb dX2_isA_10 (by decide) ?_
      refine lv_icmp_ne (tgt := 23) hx hb dX2_isA_11 (by decide) (fun c_11 => ?_) (fun c_11 => ?_)
      · skip
        refine lv_iconst (v := (nI 0)) hx hb dX2_isA_23 (by decide) ?_
        exact rr_z hx hb hr hlocks dX2_isA_24 bi_nar (ret_f (fun q => q.elim c_1 (fun q => q.elim c_6 (fun q => c_11 q.1))))
      · skip
        refine lv_iload_n hx hb dX2_isA_14 rfl (lv_at hl 0 rfl) ?_
        refine lv_iconst (v := (nI 4)) hx hb dX2_isA_15 (by decide) ?_
        refine lv_icmp_ne (tgt := 23) hx hb dX2_isA_16 (by decide) (fun c_16 => ?_) (fun c_16 => ?_)
        · skip
          refine lv_iconst (v := (nI 0)) hx hb dX2_isA_23 (by decide) ?_
          exact rr_z hx hb hr hlocks dX2_isA_24 bi_nar (ret_f (fun q => q.elim c_1 (fun q => q.elim c_6 (fun q => c_16 q.2))))
        · skip
          refine lv_iconst (v := (nI 1)) hx hb dX2_isA_19 (by decide) ?_
          refine lv_goto (tgt := 24) hx hb dX2_isA_20 (by decide) ?_
          exact rr_z hx hb hr hlocks dX2_isA_24 bi_nar (ret_t (Or.inr (Or.inr ⟨c_11, c_16⟩)))
abbrev rm_X2_numberOf : Room := { frames := 0, cells := 0, slots := 0, locals := 0 }
set_option maxRecDepth 100000 in
set_option maxHeartbeats 4000000 in
theorem c_X2_numberOf (l : Launch) (D : va_G) (cI cB : ClassId) (aS : Nat) (k x : Int32)  : Met l yX2_numberOf (mw yX2_numberOf cX2_numberOf 2 (some .int)) rm_X2_numberOf (RP D cI cB aS ([]) [.int k, .int x]) (vp_Si (fun r => r = (numF k x))) 0 0 (fun _ => False) := by
  refine met_of (by decide) (Nat.le_of_ble_eq_true rfl) ?_
  intro p e s m below meth c ls hx hb hr hml hown hg hlocks hin hK hP hl
  have hown : s.vm.findClass RX2 = some m.cls := hown
  have hl : lv_has ls 2 [(0, .int k), (1, .int x)] := hl
  refine lv_iload_n hx hb dX2_numberOf_0 rfl (lv_at hl 0 rfl) ?_
  refine lv_iconst (v := (nI 1)) hx hb dX2_numberOf_1 (by decide) ?_
  refine lv_icmp_ne (tgt := 11) hx hb dX2_numberOf_2 (by decide) (fun c_2 => ?_) (fun c_2 => ?_)
  · skip
    refine lv_iload_n hx hb dX2_numberOf_11 rfl (lv_at hl 1 rfl) ?_
    exact rr_i hx hb hr hlocks dX2_numberOf_12 ((if_neg c_2).symm)
  · skip
    refine lv_iload_n hx hb dX2_numberOf_5 rfl (lv_at hl 1 rfl) ?_
    refine lv_iconst (v := (nI 2)) hx hb dX2_numberOf_6 (by decide) ?_
    refine lv_idiv hx hb dX2_numberOf_7 (by decide) ?_
    refine lv_goto (tgt := 12) hx hb dX2_numberOf_8 (by decide) ?_
    exact rr_i hx hb hr hlocks dX2_numberOf_12 ((if_pos c_2).symm)
abbrev rm_X2_ageNextDay : Room := { frames := 0, cells := 0, slots := 0, locals := 0 }
set_option maxRecDepth 100000 in
set_option maxHeartbeats 4000000 in
theorem c_X2_ageNextDay (l : Launch) (D : va_G) (cI cB : ClassId) (aS : Nat) (k x : Int32)  : Met l yX2_ageNextDay (mw yX2_ageNextDay cX2_ageNextDay 2 (some .int)) rm_X2_ageNextDay (RP D cI cB aS ([]) [.int k, .int x]) (vp_Si (fun r => r = (nxF k x))) 0 0 (fun _ => False) := by
  refine met_of (by decide) (Nat.le_of_ble_eq_true rfl) ?_
  intro p e s m below meth c ls hx hb hr hml hown hg hlocks hin hK hP hl
  have hown : s.vm.findClass RX2 = some m.cls := hown
  have hl : lv_has ls 2 [(0, .int k), (1, .int x)] := hl
  refine lv_iload_n hx hb dX2_ageNextDay_0 rfl (lv_at hl 0 rfl) ?_
  refine lv_iconst (v := (nI 4)) hx hb dX2_ageNextDay_1 (by decide) ?_
  refine lv_icmp_ne (tgt := 9) hx hb dX2_ageNextDay_2 (by decide) (fun c_2 => ?_) (fun c_2 => ?_)
  · skip
    refine lv_iload_n hx hb dX2_ageNextDay_9 rfl (lv_at hl 1 rfl) ?_
    refine lv_iconst (v := (nI 1)) hx hb dX2_ageNextDay_10 (by decide) ?_
    refine lv_iadd hx hb dX2_ageNextDay_11 ?_
    exact rr_i hx hb hr hlocks dX2_ageNextDay_12 ((if_neg c_2).symm)
  · skip
    refine lv_iload_n hx hb dX2_ageNextDay_5 rfl (lv_at hl 1 rfl) ?_
    refine lv_goto (tgt := 12) hx hb dX2_ageNextDay_6 (by decide) ?_
    exact rr_i hx hb hr hlocks dX2_ageNextDay_12 ((if_pos c_2).symm)
abbrev rm_X2_cellOf : Room := { frames := 0, cells := 0, slots := 0, locals := 0 }
set_option maxRecDepth 100000 in
set_option maxHeartbeats 4000000 in
theorem c_X2_cellOf (l : Launch) (D : va_G) (cI cB : ClassId) (aS : Nat) (h d : Nat)  : Met l yX2_cellOf (mw yX2_cellOf cX2_cellOf 2 (some .int)) rm_X2_cellOf (RP D cI cB aS ([]) [.int (nI h), .int (nI d)]) (vp_Si (fun r => r = (nI (d * 6 + h)))) 0 0 (fun _ => False) := by
  refine met_of (by decide) (Nat.le_of_ble_eq_true rfl) ?_
  intro p e s m below meth c ls hx hb hr hml hown hg hlocks hin hK hP hl
  have hown : s.vm.findClass RX2 = some m.cls := hown
  have hl : lv_has ls 2 [(0, .int (nI h)), (1, .int (nI d))] := hl
  refine lv_iload_n hx hb dX2_cellOf_0 rfl (lv_at hl 1 rfl) ?_
  refine lv_bipush (v := (nI 6)) hx hb dX2_cellOf_1 (by decide) ?_
  refine nv_imul hx hb dX2_cellOf_3 ?_
  refine lv_iload_n hx hb dX2_cellOf_4 rfl (lv_at hl 0 rfl) ?_
  refine nv_iadd hx hb dX2_cellOf_5 ?_
  exact rr_i hx hb hr hlocks dX2_cellOf_6 rfl
abbrev rm_X2_isHouse : Room := { frames := 0, cells := 0, slots := 0, locals := 0 }
set_option maxRecDepth 100000 in
set_option maxHeartbeats 4000000 in
theorem c_X2_isHouse (l : Launch) (D : va_G) (cI cB : ClassId) (aS : Nat) (x0 n : Nat) (fs : List Value) (x : Int32) (f2 : fs[2]? = some (.int (nI n))) (hn6 : n ≤ 6) : Met l yX2_isHouse (mw yX2_isHouse cX2_isHouse 2 (some .boolean)) rm_X2_isHouse (RP D cI cB aS ([(x0, .inr (2, fs))]) [.ref x0, .int x]) (vp_Si (fun r => r = (bi (hIn n x)))) 0 0 (fun _ => False) := by
  refine met_of (by decide) (Nat.le_of_ble_eq_true rfl) ?_
  intro p e s m below meth c ls hx hb hr hml hown hg hlocks hin hK hP hl
  have hown : s.vm.findClass RX2 = some m.cls := hown
  have hl : lv_has ls 2 [(0, .ref x0), (1, .int x)] := hl
  refine lv_iload_n hx hb dX2_isHouse_0 rfl (lv_at hl 1 rfl) ?_
  refine lv_if_lt (tgt := 16) hx hb dX2_isHouse_1 (by decide) (fun c_1 => ?_) (fun c_1 => ?_)
  · skip
    refine lv_iconst (v := (nI 0)) hx hb dX2_isHouse_16 (by decide) ?_
    exact rr_z hx hb hr hlocks dX2_isHouse_17 bi_nar (ret_f (fun q => Int32.not_lt.mpr q.1 c_1))
  · skip
    refine lv_iload_n hx hb dX2_isHouse_4 rfl (lv_at hl 1 rfl) ?_
    refine lv_aload_n hx hb dX2_isHouse_5 rfl (lv_at hl 0 rfl) ?_
    refine va_get (D := D) (ci := 2) (v := .int (nI n)) (C := RX2) (T := TX2) (N := 11) hx hb hg us_X2 hown hK.1 hP 0 rfl rfl 2 (by decide) (hg _ gm_68) (fun _ h9 => h9) f2 dX2_isHouse_6 ?_
    refine lv_icmp_ge (tgt := 16) hx hb dX2_isHouse_9 (by decide) (fun c_9 => ?_) (fun c_9 => ?_)
    · skip
      refine lv_iconst (v := (nI 0)) hx hb dX2_isHouse_16 (by decide) ?_
      exact rr_z hx hb hr hlocks dX2_isHouse_17 bi_nar (ret_f (fun q => Int32.not_lt.mpr c_9 q.2))
    · skip
      refine lv_iconst (v := (nI 1)) hx hb dX2_isHouse_12 (by decide) ?_
      refine lv_goto (tgt := 17) hx hb dX2_isHouse_13 (by decide) ?_
      exact rr_z hx hb hr hlocks dX2_isHouse_17 bi_nar (ret_t ⟨Int32.not_lt.mp c_1, Int32.not_le.mp c_9⟩)
abbrev rm_X2_lendsACradle : Room := { frames := 1, cells := 0, slots := 0, locals := 21 }
theorem vf_X2_isHouse : vfacts RX2 yX2_isHouse cX2_isHouse 2 (some .boolean) 1 := ⟨⟨rfl, by decide +kernel, by decide +kernel, by decide +kernel⟩, gm_93, gm_356, gm_2, gm_94⟩
theorem sf_X2_isA : sfacts RX2 yX2_isA cX2_isA 2 (some .boolean) 2 := ⟨⟨rfl, by decide +kernel, by decide +kernel, by decide +kernel⟩, gm_128, gm_2, gm_129⟩
set_option maxRecDepth 100000 in
set_option maxHeartbeats 4000000 in
theorem c_X2_lendsACradle (l : Launch) (D : va_G) (cI cB : ClassId) (aS : Nat) (x0 k0 k1 n : Nat) (fs : List Value) (kd : Nat → Int32) (h : Nat) (f2 : fs[2]? = some (.int (nI n))) (f4 : fs[4]? = some (.ref k0)) (qh : h < n) (hn6 : n ≤ 6) : Met l yX2_lendsACradle (mw yX2_lendsACradle cX2_lendsACradle 2 (some .boolean)) rm_X2_lendsACradle (RP D cI cB aS ([(x0, .inr (2, fs)), (k0, .inr (1, [.ref k1])), (k1, .inl (cI, 6, .inl kd))]) [.ref x0, .int (nI h)]) (vp_Si (fun r => r = (bi (lendF n kd h)))) 0 0 (fun _ => False) := by
  refine met_of (by decide) (Nat.le_of_ble_eq_true rfl) ?_
  intro p e s m below meth c ls hx hb hr hml hown hg hlocks hin hK hP hl
  have hown : s.vm.findClass RX2 = some m.cls := hown
  have hl : lv_has ls 2 [(0, .ref x0), (1, .int (nI h))] := hl
  refine lv_aload_n hx hb dX2_lendsACradle_0 rfl (lv_at hl 0 rfl) ?_
  refine lv_iload_n hx hb dX2_lendsACradle_1 rfl (lv_at hl 1 rfl) ?_
  refine lv_iconst (v := (nI 1)) hx hb dX2_lendsACradle_2 (by decide) ?_
  refine nv_iadd hx hb dX2_lendsACradle_3 ?_
  have hP_1 := hP.sub (ws' := [(x0, .inr (2, fs))]) [0] rfl
  refine rdV (As := [.int (nI (h + 1))]) (rest := []) hx hb hml hown hg (c_X2_isHouse l D cI cB aS x0 n fs (nI (h + 1)) f2 (by first | assumption | omega)) gm_92 vf_X2_isHouse ⟨Nat.le_of_ble_eq_true rfl, Nat.le_of_ble_eq_true rfl⟩ ⟨rfl, rfl⟩ ⟨Nat.zero_le _, Nat.zero_le _⟩ (RP.preV hK hP_1 (q0 := 0) (ci := 2) rfl rfl) rfl hl.1 rfl (Nat.le_of_ble_eq_true rfl) dX2_lendsACradle_4 ?_
  rw [show ((bi (hIn n (nI (h + 1)))) : Int32) = (bi (h + 1 < n)) from bi_c (hIn_iff (by omega) (by omega))]
  refine bv_if_eq (tgt := 31) hx hb dX2_lendsACradle_7 (by decide) (fun c_7 => ?_) (fun c_7 => ?_)
  · skip
    refine lv_iconst (v := (nI 0)) hx hb dX2_lendsACradle_31 (by decide) ?_
    exact rr_z hx hb hr hlocks dX2_lendsACradle_32 bi_nar (ret_f (fun q => c_7 q.1))
  · skip
    refine lv_aload_n hx hb dX2_lendsACradle_10 rfl (lv_at hl 0 rfl) ?_
    refine va_get (D := D) (ci := 2) (v := .ref k0) (C := RX2) (T := TX2) (N := 11) hx hb hg us_X2 hown hK.1 hP 0 rfl rfl 4 (by decide) (hg _ gm_70) (fun _ h9 => h9) f4 dX2_lendsACradle_11 ?_
    refine lv_iload_n hx hb dX2_lendsACradle_14 rfl (lv_at hl 1 rfl) ?_
    refine lv_iconst (v := (nI 1)) hx hb dX2_lendsACradle_15 (by decide) ?_
    refine nv_iadd hx hb dX2_lendsACradle_16 ?_
    have hP_2 := hP.sub (ws' := [(k0, .inr (1, [.ref k1])), (k1, .inl (cI, 6, .inl kd))]) [1, 2] rfl
    refine rdV (As := [.int (nI (h + 1))]) (rest := []) hx hb hml hown hg (c_X1_at l D cI cB aS k0 k1 6 kd (h + 1) (by first | assumption | omega) (by first | assumption | omega)) gm_95 vf_X1_at ⟨Nat.le_of_ble_eq_true rfl, Nat.le_of_ble_eq_true rfl⟩ ⟨rfl, rfl⟩ ⟨Nat.zero_le _, Nat.zero_le _⟩ (RP.preV hK hP_2 (q0 := 0) (ci := 1) rfl rfl) rfl hl.1 rfl (Nat.le_of_ble_eq_true rfl) dX2_lendsACradle_17 ?_
    refine lv_iconst (v := (nI 3)) hx hb dX2_lendsACradle_20 (by decide) ?_
    refine rdS (As := [.int (kd (h + 1)), .int (nI 3)]) (rest := []) hx hb hml hown hg (c_X2_isA l D cI cB aS (kd (h + 1)) (nI 3)) gm_127 sf_X2_isA ⟨Nat.le_of_ble_eq_true rfl, Nat.le_of_ble_eq_true rfl⟩ ⟨rfl, rfl⟩ ⟨Nat.zero_le _, Nat.zero_le _⟩ (RP.preS hK (fun k q h => by simp at h)) rfl hl.1 rfl (Nat.le_of_ble_eq_true rfl) dX2_lendsACradle_21 ?_
    rw [show ((bi (isAF (kd (h + 1)) (nI 3))) : Int32) = (bi (kd (h + 1) = nI 3)) from bi_c isA_3]
    refine bv_if_eq (tgt := 31) hx hb dX2_lendsACradle_24 (by decide) (fun c_24 => ?_) (fun c_24 => ?_)
    · skip
      refine lv_iconst (v := (nI 0)) hx hb dX2_lendsACradle_31 (by decide) ?_
      exact rr_z hx hb hr hlocks dX2_lendsACradle_32 bi_nar (ret_f (fun q => c_24 q.2))
    · skip
      refine lv_iconst (v := (nI 1)) hx hb dX2_lendsACradle_27 (by decide) ?_
      refine lv_goto (tgt := 32) hx hb dX2_lendsACradle_28 (by decide) ?_
      exact rr_z hx hb hr hlocks dX2_lendsACradle_32 bi_nar (ret_t ⟨c_7, c_24⟩)
abbrev rm_X2_bear : Room := { frames := 2, cells := 0, slots := 0, locals := 42 }
theorem vf_X2_lendsACradle : vfacts RX2 yX2_lendsACradle cX2_lendsACradle 2 (some .boolean) 1 := ⟨⟨rfl, by decide +kernel, by decide +kernel, by decide +kernel⟩, gm_142, gm_364, gm_2, gm_143⟩
set_option maxRecDepth 100000 in
set_option maxHeartbeats 4000000 in
theorem c_X2_bear (l : Launch) (D : va_G) (cI cB : ClassId) (aS : Nat) (x0 k0 k1 r0 r1 n : Nat) (fs : List Value) (kd ag : Nat → Int32) (h : Nat) (hD0 : va_D (fun _ => True) ([(x0, .inr (2, fs)), (k0, .inr (1, [.ref k1])), (k1, .inl (cI, 6, .inl kd)), (r0, .inr (1, [.ref r1])), (r1, .inl (cI, 6, .inl ag))])) (f2 : fs[2]? = some (.int (nI n))) (f4 : fs[4]? = some (.ref k0)) (qh : h < n) (hn6 : n ≤ 6) : Met l yX2_bear (mw yX2_bear cX2_bear 3 none) rm_X2_bear (RP D cI cB aS ([(x0, .inr (2, fs)), (k0, .inr (1, [.ref k1])), (k1, .inl (cI, 6, .inl kd)), (r0, .inr (1, [.ref r1])), (r1, .inl (cI, 6, .inl ag))]) [.ref x0, .ref r0, .int (nI h)]) (wq mkV ([(x0, .inr (2, fs)), (k0, .inr (1, [.ref k1])), (k1, .inl (cI, 6, .inl kd)), (r0, .inr (1, [.ref r1])), (r1, .inl (cI, 6, .inl ag))]) (fun (_ : Unit) => [(x0, .inr (2, fs)), (k0, .inr (1, [.ref k1])), (k1, .inl (cI, 6, .inl kd)), (r0, .inr (1, [.ref r1])), (r1, .inl (cI, 6, .inl (bearF n kd ag h)))]) D (fun (_ : Unit) (_ : Unit) => True)) 0 0 (inW ([(x0, .inr (2, fs)), (k0, .inr (1, [.ref k1])), (k1, .inl (cI, 6, .inl kd)), (r0, .inr (1, [.ref r1])), (r1, .inl (cI, 6, .inl ag))])) := by
  refine met_of (by decide) (Nat.le_of_ble_eq_true rfl) ?_
  intro p e s m below meth c ls hx hb hr hml hown hg hlocks hin hK hP hl
  have hown : s.vm.findClass RX2 = some m.cls := hown
  have hl : lv_has ls 3 [(0, .ref x0), (1, .ref r0), (2, .int (nI h))] := hl
  have hD := hD0.here
  have hS0 : va_S (inW ([(x0, .inr (2, fs)), (k0, .inr (1, [.ref k1])), (k1, .inl (cI, 6, .inl kd)), (r0, .inr (1, [.ref r1])), (r1, .inl (cI, 6, .inl ag))])) s.heap s.heap [] := va_S.rf
  obtain ⟨H, hH⟩ : ∃ H, H = s.heap := ⟨_, rfl⟩
  have hS : va_S (inW ([(x0, .inr (2, fs)), (k0, .inr (1, [.ref k1])), (k1, .inl (cI, 6, .inl kd)), (r0, .inr (1, [.ref r1])), (r1, .inl (cI, 6, .inl ag))])) s.heap H [] := by rw [hH]; exact hS0
  clear hS0
  rw [← hH] at hP ⊢
  generalize hAe : inW ([(x0, .inr (2, fs)), (k0, .inr (1, [.ref k1])), (k1, .inl (cI, 6, .inl kd)), (r0, .inr (1, [.ref r1])), (r1, .inl (cI, 6, .inl ag))]) = A at hD hS ⊢
  refine lv_aload_n hx hb dX2_bear_0 rfl (lv_at hl 1 rfl) ?_
  refine lv_iload_n hx hb dX2_bear_1 rfl (lv_at hl 2 rfl) ?_
  refine lv_iconst (v := (nI 0)) hx hb dX2_bear_2 (by decide) ?_
  have hP_1 := hP.sub (ws' := [(r0, .inr (1, [.ref r1])), (r1, .inl (cI, 6, .inl ag))]) [3, 4] rfl
  have hC_2 : ([3, 4] : List Nat).map (fun q_ => ([(x0, .inr (2, fs)), (k0, .inr (1, [.ref k1])), (k1, .inl (cI, 6, .inl kd)), (r0, .inr (1, [.ref r1])), (r1, .inl (cI, 6, .inl ag))] : va_W)[q_]?) = List.map some ([(r0, .inr (1, [.ref r1])), (r1, .inl (cI, 6, .inl ag))] : va_W) := rfl
  have hDc_2 : va_D (fun _ => True) [(r0, .inr (1, [.ref r1])), (r1, .inl (cI, 6, .inl ag))] := (hD.sub (ws' := [(r0, .inr (1, [.ref r1])), (r1, .inl (cI, 6, .inl ag))]) [3, 4] (by decide) hC_2).weaken (fun _ _ _ _ => trivial)
  refine wrVv (As := [.int (nI h), .int (nI 0)]) (rest := []) hx hb hml hown hg (c_X1_put l D cI cB aS r0 r1 6 ag h (nI 0) hDc_2 (by first | assumption | omega) (by first | assumption | omega)) gm_137 vf_X1_put ⟨Nat.le_of_ble_eq_true rfl, Nat.le_of_ble_eq_true rfl⟩ ⟨rfl, rfl⟩ ⟨Nat.zero_le _, Nat.zero_le _⟩ (RP.preV hK hP_1 (q0 := 0) (ci := 1) rfl rfl) rfl hl.1 rfl (Nat.le_of_ble_eq_true rfl) dX2_bear_3 hS (inW_sub hD [3, 4] hC_2) (fun u_3 H1 locs hpo_3 hP1 hk1 hS => ?_)
  have hP : va_P D vwCl ([(x0, .inr (2, fs)), (k0, .inr (1, [.ref k1])), (k1, .inl (cI, 6, .inl kd)), (r0, .inr (1, [.ref r1])), (r1, .inl (cI, 6, .inl (upd ag h (nI 0))))]) H1 := wjoin (wc := [(r0, .inr (1, [.ref r1])), (r1, .inl (cI, 6, .inl ag))]) (w1 := [(r0, .inr (1, [.ref r1])), (r1, .inl (cI, 6, .inl (upd ag h (nI 0))))]) hP hD [3, 4] hC_2 rfl hP1 hk1
  have hD : va_D A ([(x0, .inr (2, fs)), (k0, .inr (1, [.ref k1])), (k1, .inl (cI, 6, .inl kd)), (r0, .inr (1, [.ref r1])), (r1, .inl (cI, 6, .inl (upd ag h (nI 0))))]) := hD.addr rfl
  clear hP1 hk1
  generalize H1 = H at hP hS ⊢
  refine lv_aload_n hx hb dX2_bear_6 rfl (lv_at hl 0 rfl) ?_
  refine lv_iload_n hx hb dX2_bear_7 rfl (lv_at hl 2 rfl) ?_
  have hP_4 := hP.sub (ws' := [(x0, .inr (2, fs)), (k0, .inr (1, [.ref k1])), (k1, .inl (cI, 6, .inl kd))]) [0, 1, 2] rfl
  refine rdV (As := [.int (nI h)]) (rest := []) hx hb hml hown hg (c_X2_lendsACradle l D cI cB aS x0 k0 k1 n fs kd h f2 f4 (by first | assumption | omega) (by first | assumption | omega)) gm_141 vf_X2_lendsACradle ⟨Nat.le_of_ble_eq_true rfl, Nat.le_of_ble_eq_true rfl⟩ ⟨rfl, rfl⟩ ⟨Nat.zero_le _, Nat.zero_le _⟩ (RP.preV hK hP_4 (q0 := 0) (ci := 2) rfl rfl) rfl hl.1 rfl (Nat.le_of_ble_eq_true rfl) dX2_bear_8 ?_
  refine bv_if_eq (tgt := 22) hx hb dX2_bear_11 (by decide) (fun c_11 => ?_) (fun c_11 => ?_)
  · skip
    subst hAe
    exact wr_v (w1 := fun (_ : Unit) => [(x0, .inr (2, fs)), (k0, .inr (1, [.ref k1])), (k1, .inl (cI, 6, .inl kd)), (r0, .inr (1, [.ref r1])), (r1, .inl (cI, 6, .inl (bearF n kd ag h)))]) hx hb hr hlocks hS () (by show va_P D vwCl ([(x0, .inr (2, fs)), (k0, .inr (1, [.ref k1])), (k1, .inl (cI, 6, .inl kd)), (r0, .inr (1, [.ref r1])), (r1, .inl (cI, 6, .inl (bearF n kd ag h)))]) H; rw [bear_f c_11]; exact hP) dX2_bear_22 trivial
  · skip
    refine lv_aload_n hx hb dX2_bear_14 rfl (lv_at hl 1 rfl) ?_
    refine lv_iload_n hx hb dX2_bear_15 rfl (lv_at hl 2 rfl) ?_
    refine lv_iconst (v := (nI 1)) hx hb dX2_bear_16 (by decide) ?_
    refine nv_iadd hx hb dX2_bear_17 ?_
    refine lv_iconst (v := (nI 0)) hx hb dX2_bear_18 (by decide) ?_
    have hP_5 := hP.sub (ws' := [(r0, .inr (1, [.ref r1])), (r1, .inl (cI, 6, .inl (upd ag h (nI 0))))]) [3, 4] rfl
    have hC_6 : ([3, 4] : List Nat).map (fun q_ => ([(x0, .inr (2, fs)), (k0, .inr (1, [.ref k1])), (k1, .inl (cI, 6, .inl kd)), (r0, .inr (1, [.ref r1])), (r1, .inl (cI, 6, .inl (upd ag h (nI 0))))] : va_W)[q_]?) = List.map some ([(r0, .inr (1, [.ref r1])), (r1, .inl (cI, 6, .inl (upd ag h (nI 0))))] : va_W) := rfl
    have hDc_6 : va_D (fun _ => True) [(r0, .inr (1, [.ref r1])), (r1, .inl (cI, 6, .inl (upd ag h (nI 0))))] := (hD.sub (ws' := [(r0, .inr (1, [.ref r1])), (r1, .inl (cI, 6, .inl (upd ag h (nI 0))))]) [3, 4] (by decide) hC_6).weaken (fun _ _ _ _ => trivial)
    refine wrVv (As := [.int (nI (h + 1)), .int (nI 0)]) (rest := []) hx hb hml hown hg (c_X1_put l D cI cB aS r0 r1 6 (upd ag h (nI 0)) (h + 1) (nI 0) hDc_6 (by first | assumption | omega) (by first | assumption | omega)) gm_137 vf_X1_put ⟨Nat.le_of_ble_eq_true rfl, Nat.le_of_ble_eq_true rfl⟩ ⟨rfl, rfl⟩ ⟨Nat.zero_le _, Nat.zero_le _⟩ (RP.preV hK hP_5 (q0 := 0) (ci := 1) rfl rfl) rfl hl.1 rfl (Nat.le_of_ble_eq_true rfl) dX2_bear_19 hS (inW_sub hD [3, 4] hC_6) (fun u_7 H1 locs hpo_7 hP1 hk1 hS => ?_)
    have hP : va_P D vwCl ([(x0, .inr (2, fs)), (k0, .inr (1, [.ref k1])), (k1, .inl (cI, 6, .inl kd)), (r0, .inr (1, [.ref r1])), (r1, .inl (cI, 6, .inl (upd (upd ag h (nI 0)) (h + 1) (nI 0))))]) H1 := wjoin (wc := [(r0, .inr (1, [.ref r1])), (r1, .inl (cI, 6, .inl (upd ag h (nI 0))))]) (w1 := [(r0, .inr (1, [.ref r1])), (r1, .inl (cI, 6, .inl (upd (upd ag h (nI 0)) (h + 1) (nI 0))))]) hP hD [3, 4] hC_6 rfl hP1 hk1
    have hD : va_D A ([(x0, .inr (2, fs)), (k0, .inr (1, [.ref k1])), (k1, .inl (cI, 6, .inl kd)), (r0, .inr (1, [.ref r1])), (r1, .inl (cI, 6, .inl (upd (upd ag h (nI 0)) (h + 1) (nI 0))))]) := hD.addr rfl
    clear hP1 hk1
    generalize H1 = H at hP hS ⊢
    subst hAe
    exact wr_v (w1 := fun (_ : Unit) => [(x0, .inr (2, fs)), (k0, .inr (1, [.ref k1])), (k1, .inl (cI, 6, .inl kd)), (r0, .inr (1, [.ref r1])), (r1, .inl (cI, 6, .inl (bearF n kd ag h)))]) hx hb hr hlocks hS () (by show va_P D vwCl ([(x0, .inr (2, fs)), (k0, .inr (1, [.ref k1])), (k1, .inl (cI, 6, .inl kd)), (r0, .inr (1, [.ref r1])), (r1, .inl (cI, 6, .inl (bearF n kd ag h)))]) H; rw [bear_t c_11]; exact hP) dX2_bear_22 trivial
abbrev rm_X2_bearIfMayBe : Room := { frames := 3, cells := 0, slots := 0, locals := 64 }
theorem vf_X2_bear : vfacts RX2 yX2_bear cX2_bear 3 none 2 := ⟨⟨rfl, by decide +kernel, by decide +kernel, by decide +kernel⟩, gm_135, gm_363, gm_2, gm_136⟩
set_option maxRecDepth 100000 in
set_option maxHeartbeats 4000000 in
theorem c_X2_bearIfMayBe (l : Launch) (D : va_G) (cI cB : ClassId) (aS : Nat) (x0 k0 k1 r0 r1 n : Nat) (fs : List Value) (kd ag : Nat → Int32) (h : Nat) (hD0 : va_D (fun _ => True) ([(x0, .inr (2, fs)), (k0, .inr (1, [.ref k1])), (k1, .inl (cI, 6, .inl kd)), (r0, .inr (1, [.ref r1])), (r1, .inl (cI, 6, .inl ag))])) (f2 : fs[2]? = some (.int (nI n))) (f4 : fs[4]? = some (.ref k0)) (qh : h < n) (hn6 : n ≤ 6) : Met l yX2_bearIfMayBe (mw yX2_bearIfMayBe cX2_bearIfMayBe 3 none) rm_X2_bearIfMayBe (RP D cI cB aS ([(x0, .inr (2, fs)), (k0, .inr (1, [.ref k1])), (k1, .inl (cI, 6, .inl kd)), (r0, .inr (1, [.ref r1])), (r1, .inl (cI, 6, .inl ag))]) [.ref x0, .ref r0, .int (nI h)]) (wq mkV ([(x0, .inr (2, fs)), (k0, .inr (1, [.ref k1])), (k1, .inl (cI, 6, .inl kd)), (r0, .inr (1, [.ref r1])), (r1, .inl (cI, 6, .inl ag))]) (fun (_ : Unit) => [(x0, .inr (2, fs)), (k0, .inr (1, [.ref k1])), (k1, .inl (cI, 6, .inl kd)), (r0, .inr (1, [.ref r1])), (r1, .inl (cI, 6, .inl (yB n kd ag h)))]) D (fun (_ : Unit) (_ : Unit) => True)) 0 0 (inW ([(x0, .inr (2, fs)), (k0, .inr (1, [.ref k1])), (k1, .inl (cI, 6, .inl kd)), (r0, .inr (1, [.ref r1])), (r1, .inl (cI, 6, .inl ag))])) := by
  refine met_of (by decide) (Nat.le_of_ble_eq_true rfl) ?_
  intro p e s m below meth c ls hx hb hr hml hown hg hlocks hin hK hP hl
  have hown : s.vm.findClass RX2 = some m.cls := hown
  have hl : lv_has ls 3 [(0, .ref x0), (1, .ref r0), (2, .int (nI h))] := hl
  have hD := hD0.here
  have hS0 : va_S (inW ([(x0, .inr (2, fs)), (k0, .inr (1, [.ref k1])), (k1, .inl (cI, 6, .inl kd)), (r0, .inr (1, [.ref r1])), (r1, .inl (cI, 6, .inl ag))])) s.heap s.heap [] := va_S.rf
  obtain ⟨H, hH⟩ : ∃ H, H = s.heap := ⟨_, rfl⟩
  have hS : va_S (inW ([(x0, .inr (2, fs)), (k0, .inr (1, [.ref k1])), (k1, .inl (cI, 6, .inl kd)), (r0, .inr (1, [.ref r1])), (r1, .inl (cI, 6, .inl ag))])) s.heap H [] := by rw [hH]; exact hS0
  clear hS0
  rw [← hH] at hP ⊢
  generalize hAe : inW ([(x0, .inr (2, fs)), (k0, .inr (1, [.ref k1])), (k1, .inl (cI, 6, .inl kd)), (r0, .inr (1, [.ref r1])), (r1, .inl (cI, 6, .inl ag))]) = A at hD hS ⊢
  refine lv_aload_n hx hb dX2_bearIfMayBe_0 rfl (lv_at hl 0 rfl) ?_
  refine va_get (D := D) (ci := 2) (v := .ref k0) (C := RX2) (T := TX2) (N := 11) hx hb hg us_X2 hown hK.1 hP 0 rfl rfl 4 (by decide) (hg _ gm_70) (fun _ h9 => h9) f4 dX2_bearIfMayBe_1 ?_
  refine lv_iload_n hx hb dX2_bearIfMayBe_4 rfl (lv_at hl 2 rfl) ?_
  have hP_1 := hP.sub (ws' := [(k0, .inr (1, [.ref k1])), (k1, .inl (cI, 6, .inl kd))]) [1, 2] rfl
  refine rdV (As := [.int (nI h)]) (rest := []) hx hb hml hown hg (c_X1_at l D cI cB aS k0 k1 6 kd h (by first | assumption | omega) (by first | assumption | omega)) gm_95 vf_X1_at ⟨Nat.le_of_ble_eq_true rfl, Nat.le_of_ble_eq_true rfl⟩ ⟨rfl, rfl⟩ ⟨Nat.zero_le _, Nat.zero_le _⟩ (RP.preV hK hP_1 (q0 := 0) (ci := 1) rfl rfl) rfl hl.1 rfl (Nat.le_of_ble_eq_true rfl) dX2_bearIfMayBe_5 ?_
  refine lv_iconst (v := (nI 2)) hx hb dX2_bearIfMayBe_8 (by decide) ?_
  refine rdS (As := [.int (kd h), .int (nI 2)]) (rest := []) hx hb hml hown hg (c_X2_isA l D cI cB aS (kd h) (nI 2)) gm_127 sf_X2_isA ⟨Nat.le_of_ble_eq_true rfl, Nat.le_of_ble_eq_true rfl⟩ ⟨rfl, rfl⟩ ⟨Nat.zero_le _, Nat.zero_le _⟩ (RP.preS hK (fun k q h => by simp at h)) rfl hl.1 rfl (Nat.le_of_ble_eq_true rfl) dX2_bearIfMayBe_9 ?_
  rw [show ((bi (isAF (kd h) (nI 2))) : Int32) = (bi ((kd h = nI 2 ∨ kd h = nI 4))) from bi_c isA_2]
  refine bv_if_ne (tgt := 21) hx hb dX2_bearIfMayBe_12 (by decide) (fun c_12 => ?_) (fun c_12 => ?_)
  · skip
    subst hAe
    exact wr_v (w1 := fun (_ : Unit) => [(x0, .inr (2, fs)), (k0, .inr (1, [.ref k1])), (k1, .inl (cI, 6, .inl kd)), (r0, .inr (1, [.ref r1])), (r1, .inl (cI, 6, .inl (yB n kd ag h)))]) hx hb hr hlocks hS () (by show va_P D vwCl ([(x0, .inr (2, fs)), (k0, .inr (1, [.ref k1])), (k1, .inl (cI, 6, .inl kd)), (r0, .inr (1, [.ref r1])), (r1, .inl (cI, 6, .inl (yB n kd ag h)))]) H; rw [yB_f c_12]; exact hP) dX2_bearIfMayBe_21 trivial
  · skip
    refine lv_aload_n hx hb dX2_bearIfMayBe_15 rfl (lv_at hl 0 rfl) ?_
    refine lv_aload_n hx hb dX2_bearIfMayBe_16 rfl (lv_at hl 1 rfl) ?_
    refine lv_iload_n hx hb dX2_bearIfMayBe_17 rfl (lv_at hl 2 rfl) ?_
    refine wrVv (As := [.ref r0, .int (nI h)]) (rest := []) hx hb hml hown hg (c_X2_bear l D cI cB aS x0 k0 k1 r0 r1 n fs kd ag h (hD.weaken (fun _ _ _ _ => trivial)) f2 f4 (by first | assumption | omega) (by first | assumption | omega)) gm_134 vf_X2_bear ⟨Nat.le_of_ble_eq_true rfl, Nat.le_of_ble_eq_true rfl⟩ ⟨rfl, rfl⟩ ⟨Nat.zero_le _, Nat.zero_le _⟩ (RP.preV hK hP (q0 := 0) (ci := 2) rfl rfl) rfl hl.1 rfl (Nat.le_of_ble_eq_true rfl) dX2_bearIfMayBe_18 hS (inW_all hD) (fun u_2 H1 locs hpo_2 hP1 hk1 hS => ?_)
    have hP : va_P D vwCl ([(x0, .inr (2, fs)), (k0, .inr (1, [.ref k1])), (k1, .inl (cI, 6, .inl kd)), (r0, .inr (1, [.ref r1])), (r1, .inl (cI, 6, .inl (bearF n kd ag h)))]) H1 := hP1
    have hD : va_D A ([(x0, .inr (2, fs)), (k0, .inr (1, [.ref k1])), (k1, .inl (cI, 6, .inl kd)), (r0, .inr (1, [.ref r1])), (r1, .inl (cI, 6, .inl (bearF n kd ag h)))]) := hD.addr rfl
    clear hP1 hk1
    generalize H1 = H at hP hS ⊢
    subst hAe
    exact wr_v (w1 := fun (_ : Unit) => [(x0, .inr (2, fs)), (k0, .inr (1, [.ref k1])), (k1, .inl (cI, 6, .inl kd)), (r0, .inr (1, [.ref r1])), (r1, .inl (cI, 6, .inl (yB n kd ag h)))]) hx hb hr hlocks hS () (by show va_P D vwCl ([(x0, .inr (2, fs)), (k0, .inr (1, [.ref k1])), (k1, .inl (cI, 6, .inl kd)), (r0, .inr (1, [.ref r1])), (r1, .inl (cI, 6, .inl (yB n kd ag h)))]) H; rw [yB_t c_12]; exact hP) dX2_bearIfMayBe_21 trivial
abbrev rm_X2_growOlder : Room := { frames := 1, cells := 0, slots := 0, locals := 22 }
theorem sf_X2_ageNextDay : sfacts RX2 yX2_ageNextDay cX2_ageNextDay 2 (some .int) 2 := ⟨⟨rfl, by decide +kernel, by decide +kernel, by decide +kernel⟩, gm_158, gm_2, gm_159⟩
set_option maxRecDepth 100000 in
set_option maxHeartbeats 4000000 in
theorem c_X2_growOlder (l : Launch) (D : va_G) (cI cB : ClassId) (aS : Nat) (x0 k0 k1 r0 r1 n : Nat) (fs : List Value) (kd ag : Nat → Int32)  (hD0 : va_D (fun _ => True) ([(x0, .inr (2, fs)), (k0, .inr (1, [.ref k1])), (k1, .inl (cI, 6, .inl kd)), (r0, .inr (1, [.ref r1])), (r1, .inl (cI, 6, .inl ag))])) (f2 : fs[2]? = some (.int (nI n))) (f4 : fs[4]? = some (.ref k0)) (hn6 : n ≤ 6) : Met l yX2_growOlder (mw yX2_growOlder cX2_growOlder 3 none) rm_X2_growOlder (RP D cI cB aS ([(x0, .inr (2, fs)), (k0, .inr (1, [.ref k1])), (k1, .inl (cI, 6, .inl kd)), (r0, .inr (1, [.ref r1])), (r1, .inl (cI, 6, .inl ag))]) [.ref x0, .ref r0]) (wq mkV ([(x0, .inr (2, fs)), (k0, .inr (1, [.ref k1])), (k1, .inl (cI, 6, .inl kd)), (r0, .inr (1, [.ref r1])), (r1, .inl (cI, 6, .inl ag))]) (fun (_ : Unit) => [(x0, .inr (2, fs)), (k0, .inr (1, [.ref k1])), (k1, .inl (cI, 6, .inl kd)), (r0, .inr (1, [.ref r1])), (r1, .inl (cI, 6, .inl (groF kd ag n)))]) D (fun (_ : Unit) (_ : Unit) => True)) 0 0 (inW ([(x0, .inr (2, fs)), (k0, .inr (1, [.ref k1])), (k1, .inl (cI, 6, .inl kd)), (r0, .inr (1, [.ref r1])), (r1, .inl (cI, 6, .inl ag))])) := by
  refine met_of (by decide) (Nat.le_of_ble_eq_true rfl) ?_
  intro p e s m below meth c ls hx hb hr hml hown hg hlocks hin hK hP hl
  have hown : s.vm.findClass RX2 = some m.cls := hown
  have hl : lv_has ls 3 [(0, .ref x0), (1, .ref r0)] := hl
  have hD := hD0.here
  have hS0 : va_S (inW ([(x0, .inr (2, fs)), (k0, .inr (1, [.ref k1])), (k1, .inl (cI, 6, .inl kd)), (r0, .inr (1, [.ref r1])), (r1, .inl (cI, 6, .inl ag))])) s.heap s.heap [] := va_S.rf
  obtain ⟨H, hH⟩ : ∃ H, H = s.heap := ⟨_, rfl⟩
  have hS : va_S (inW ([(x0, .inr (2, fs)), (k0, .inr (1, [.ref k1])), (k1, .inl (cI, 6, .inl kd)), (r0, .inr (1, [.ref r1])), (r1, .inl (cI, 6, .inl ag))])) s.heap H [] := by rw [hH]; exact hS0
  clear hS0
  rw [← hH] at hP ⊢
  generalize hAe : inW ([(x0, .inr (2, fs)), (k0, .inr (1, [.ref k1])), (k1, .inl (cI, 6, .inl kd)), (r0, .inr (1, [.ref r1])), (r1, .inl (cI, 6, .inl ag))]) = A at hD hS ⊢
  refine lv_iconst (v := (nI 0)) hx hb dX2_growOlder_0 (by decide) ?_
  refine lv_istore_n (lv' := [(2, .int (nI 0)), (0, .ref x0), (1, .ref r0)]) hx hb dX2_growOlder_1 rfl hl (by decide) rfl (fun ls hl => ?_)
  -- loop at 2
  refine loopW (nL := 3) (S := Unit) (B := n) (I := fun i u => True) (lv := fun i u => [(0, .ref x0), (1, .ref r0), (2, .int (nI i))]) (wf := fun i u => [(x0, .inr (2, fs)), (k0, .inr (1, [.ref k1])), (k1, .inl (cI, 6, .inl kd)), (r0, .inr (1, [.ref r1])), (r1, .inl (cI, 6, .inl (groF kd ag i)))]) 0 () (Nat.zero_le _) (trivial) (lv_sub hl [1, 2, 0] rfl) (by show va_P D vwCl ([(x0, .inr (2, fs)), (k0, .inr (1, [.ref k1])), (k1, .inl (cI, 6, .inl kd)), (r0, .inr (1, [.ref r1])), (r1, .inl (cI, 6, .inl (groF kd ag 0)))]) H; rw [gro_0]; exact hP) (hD.addr rfl) hS (fun i u ls H locs hj hI hl hP hD hS ih => ?_)
  have hP : va_P D vwCl ([(x0, .inr (2, fs)), (k0, .inr (1, [.ref k1])), (k1, .inl (cI, 6, .inl kd)), (r0, .inr (1, [.ref r1])), (r1, .inl (cI, 6, .inl (groF kd ag i)))]) H := hP
  have hD : va_D A ([(x0, .inr (2, fs)), (k0, .inr (1, [.ref k1])), (k1, .inl (cI, 6, .inl kd)), (r0, .inr (1, [.ref r1])), (r1, .inl (cI, 6, .inl (groF kd ag i)))]) := hD
  have hl : lv_has ls 3 [(0, .ref x0), (1, .ref r0), (2, .int (nI i))] := hl
  have ih_2 := ih
  refine lv_iload_n hx hb dX2_growOlder_2 rfl (lv_at hl 2 rfl) ?_
  refine lv_aload_n hx hb dX2_growOlder_3 rfl (lv_at hl 0 rfl) ?_
  refine va_get (D := D) (ci := 2) (v := .int (nI n)) (C := RX2) (T := TX2) (N := 11) hx hb hg us_X2 hown hK.1 hP 0 rfl rfl 2 (by decide) (hg _ gm_68) (fun _ h9 => h9) f2 dX2_growOlder_4 ?_
  refine nv_icmp_ge (tgt := 37) hx hb dX2_growOlder_7 (by omega) (by omega) (by decide) (fun c_7 => ?_) (fun c_7 => ?_)
  · skip
    subst hAe
    exact wr_v (w1 := fun (_ : Unit) => [(x0, .inr (2, fs)), (k0, .inr (1, [.ref k1])), (k1, .inl (cI, 6, .inl kd)), (r0, .inr (1, [.ref r1])), (r1, .inl (cI, 6, .inl (groF kd ag n)))]) hx hb hr hlocks hS () (by rw [show i = n by omega] at hP; exact hP) dX2_growOlder_37 trivial
  · skip
    refine lv_aload_n hx hb dX2_growOlder_10 rfl (lv_at hl 1 rfl) ?_
    refine lv_iload_n hx hb dX2_growOlder_11 rfl (lv_at hl 2 rfl) ?_
    refine lv_aload_n hx hb dX2_growOlder_12 rfl (lv_at hl 0 rfl) ?_
    refine va_get (D := D) (ci := 2) (v := .ref k0) (C := RX2) (T := TX2) (N := 11) hx hb hg us_X2 hown hK.1 hP 0 rfl rfl 4 (by decide) (hg _ gm_70) (fun _ h9 => h9) f4 dX2_growOlder_13 ?_
    refine lv_iload_n hx hb dX2_growOlder_16 rfl (lv_at hl 2 rfl) ?_
    have hP_1 := hP.sub (ws' := [(k0, .inr (1, [.ref k1])), (k1, .inl (cI, 6, .inl kd))]) [1, 2] rfl
    refine rdV (As := [.int (nI i)]) (rest := [.int (nI i), .ref r0]) hx hb hml hown hg (c_X1_at l D cI cB aS k0 k1 6 kd i (by first | assumption | omega) (by first | assumption | omega)) gm_95 vf_X1_at ⟨Nat.le_of_ble_eq_true rfl, Nat.le_of_ble_eq_true rfl⟩ ⟨rfl, rfl⟩ ⟨Nat.zero_le _, Nat.zero_le _⟩ (RP.preV hK hP_1 (q0 := 0) (ci := 1) rfl rfl) rfl hl.1 rfl (Nat.le_of_ble_eq_true rfl) dX2_growOlder_17 ?_
    refine lv_aload_n hx hb dX2_growOlder_20 rfl (lv_at hl 1 rfl) ?_
    refine lv_iload_n hx hb dX2_growOlder_21 rfl (lv_at hl 2 rfl) ?_
    have hP_2 := hP.sub (ws' := [(r0, .inr (1, [.ref r1])), (r1, .inl (cI, 6, .inl (groF kd ag i)))]) [3, 4] rfl
    refine rdV (As := [.int (nI i)]) (rest := [.int (kd i), .int (nI i), .ref r0]) hx hb hml hown hg (c_X1_at l D cI cB aS r0 r1 6 (groF kd ag i) i (by first | assumption | omega) (by first | assumption | omega)) gm_95 vf_X1_at ⟨Nat.le_of_ble_eq_true rfl, Nat.le_of_ble_eq_true rfl⟩ ⟨rfl, rfl⟩ ⟨Nat.zero_le _, Nat.zero_le _⟩ (RP.preV hK hP_2 (q0 := 0) (ci := 1) rfl rfl) rfl hl.1 rfl (Nat.le_of_ble_eq_true rfl) dX2_growOlder_22 ?_
    refine rdS (As := [.int (kd i), .int ((groF kd ag i) i)]) (rest := [.int (nI i), .ref r0]) hx hb hml hown hg (c_X2_ageNextDay l D cI cB aS (kd i) ((groF kd ag i) i)) gm_157 sf_X2_ageNextDay ⟨Nat.le_of_ble_eq_true rfl, Nat.le_of_ble_eq_true rfl⟩ ⟨rfl, rfl⟩ ⟨Nat.zero_le _, Nat.zero_le _⟩ (RP.preS hK (fun k q h => by simp at h)) rfl hl.1 rfl (Nat.le_of_ble_eq_true rfl) dX2_growOlder_25 ?_
    have hP_3 := hP.sub (ws' := [(r0, .inr (1, [.ref r1])), (r1, .inl (cI, 6, .inl (groF kd ag i)))]) [3, 4] rfl
    have hC_4 : ([3, 4] : List Nat).map (fun q_ => ([(x0, .inr (2, fs)), (k0, .inr (1, [.ref k1])), (k1, .inl (cI, 6, .inl kd)), (r0, .inr (1, [.ref r1])), (r1, .inl (cI, 6, .inl (groF kd ag i)))] : va_W)[q_]?) = List.map some ([(r0, .inr (1, [.ref r1])), (r1, .inl (cI, 6, .inl (groF kd ag i)))] : va_W) := rfl
    have hDc_4 : va_D (fun _ => True) [(r0, .inr (1, [.ref r1])), (r1, .inl (cI, 6, .inl (groF kd ag i)))] := (hD.sub (ws' := [(r0, .inr (1, [.ref r1])), (r1, .inl (cI, 6, .inl (groF kd ag i)))]) [3, 4] (by decide) hC_4).weaken (fun _ _ _ _ => trivial)
    refine wrVv (As := [.int (nI i), .int (nxF (kd i) ((groF kd ag i) i))]) (rest := []) hx hb hml hown hg (c_X1_put l D cI cB aS r0 r1 6 (groF kd ag i) i (nxF (kd i) ((groF kd ag i) i)) hDc_4 (by first | assumption | omega) (by first | assumption | omega)) gm_137 vf_X1_put ⟨Nat.le_of_ble_eq_true rfl, Nat.le_of_ble_eq_true rfl⟩ ⟨rfl, rfl⟩ ⟨Nat.zero_le _, Nat.zero_le _⟩ (RP.preV hK hP_3 (q0 := 0) (ci := 1) rfl rfl) rfl hl.1 rfl (Nat.le_of_ble_eq_true rfl) dX2_growOlder_28 hS (inW_sub hD [3, 4] hC_4) (fun u_5 H1 locs hpo_5 hP1 hk1 hS => ?_)
    have hP : va_P D vwCl ([(x0, .inr (2, fs)), (k0, .inr (1, [.ref k1])), (k1, .inl (cI, 6, .inl kd)), (r0, .inr (1, [.ref r1])), (r1, .inl (cI, 6, .inl (upd (groF kd ag i) i (nxF (kd i) ((groF kd ag i) i)))))]) H1 := wjoin (wc := [(r0, .inr (1, [.ref r1])), (r1, .inl (cI, 6, .inl (groF kd ag i)))]) (w1 := [(r0, .inr (1, [.ref r1])), (r1, .inl (cI, 6, .inl (upd (groF kd ag i) i (nxF (kd i) ((groF kd ag i) i)))))]) hP hD [3, 4] hC_4 rfl hP1 hk1
    have hD : va_D A ([(x0, .inr (2, fs)), (k0, .inr (1, [.ref k1])), (k1, .inl (cI, 6, .inl kd)), (r0, .inr (1, [.ref r1])), (r1, .inl (cI, 6, .inl (upd (groF kd ag i) i (nxF (kd i) ((groF kd ag i) i)))))]) := hD.addr rfl
    clear hP1 hk1
    generalize H1 = H at hP hS ⊢
    have e_6 : upd (groF kd ag i) i (nxF (kd i) ((groF kd ag i) i)) = groF kd ag (i + 1) := gro_s (by rw [gro_at])
    rw [e_6] at hP hD
    have hP : va_P D vwCl ([(x0, .inr (2, fs)), (k0, .inr (1, [.ref k1])), (k1, .inl (cI, 6, .inl kd)), (r0, .inr (1, [.ref r1])), (r1, .inl (cI, 6, .inl (groF kd ag (i + 1))))]) H := hP
    have hD : va_D A ([(x0, .inr (2, fs)), (k0, .inr (1, [.ref k1])), (k1, .inl (cI, 6, .inl kd)), (r0, .inr (1, [.ref r1])), (r1, .inl (cI, 6, .inl (groF kd ag (i + 1))))]) := hD
    refine lv_iinc (v := (nI (i + 1))) (lv' := [(2, .int (nI (i + 1))), (0, .ref x0), (1, .ref r0)]) hx hb dX2_growOlder_31 hl (k := 2) rfl (nI_i1 _) (by decide) rfl (fun ls hl => ?_)
    refine lv_goto (tgt := 2) hx hb dX2_growOlder_34 (by decide) ?_
    exact ih_2 () _ _ _ (by omega) (trivial) (lv_sub hl [1, 2, 0] rfl) hP (hD.addr rfl) hS
abbrev rm_X2_numberAt : Room := { frames := 1, cells := 0, slots := 0, locals := 21 }
theorem sf_X2_numberOf : sfacts RX2 yX2_numberOf cX2_numberOf 2 (some .int) 2 := ⟨⟨rfl, by decide +kernel, by decide +kernel, by decide +kernel⟩, gm_106, gm_2, gm_107⟩
set_option maxRecDepth 100000 in
set_option maxHeartbeats 4000000 in
theorem c_X2_numberAt (l : Launch) (D : va_G) (cI cB : ClassId) (aS : Nat) (x0 k0 k1 r0 r1 n : Nat) (fs : List Value) (kd ag : Nat → Int32) (h : Nat) (f2 : fs[2]? = some (.int (nI n))) (f4 : fs[4]? = some (.ref k0)) (qh : h < n) (hn6 : n ≤ 6) : Met l yX2_numberAt (mw yX2_numberAt cX2_numberAt 3 (some .int)) rm_X2_numberAt (RP D cI cB aS ([(x0, .inr (2, fs)), (k0, .inr (1, [.ref k1])), (k1, .inl (cI, 6, .inl kd)), (r0, .inr (1, [.ref r1])), (r1, .inl (cI, 6, .inl ag))]) [.ref x0, .ref r0, .int (nI h)]) (vp_Si (fun r => r = (nmF kd ag h))) 0 0 (fun _ => False) := by
  refine met_of (by decide) (Nat.le_of_ble_eq_true rfl) ?_
  intro p e s m below meth c ls hx hb hr hml hown hg hlocks hin hK hP hl
  have hown : s.vm.findClass RX2 = some m.cls := hown
  have hl : lv_has ls 3 [(0, .ref x0), (1, .ref r0), (2, .int (nI h))] := hl
  refine lv_aload_n hx hb dX2_numberAt_0 rfl (lv_at hl 0 rfl) ?_
  refine va_get (D := D) (ci := 2) (v := .ref k0) (C := RX2) (T := TX2) (N := 11) hx hb hg us_X2 hown hK.1 hP 0 rfl rfl 4 (by decide) (hg _ gm_70) (fun _ h9 => h9) f4 dX2_numberAt_1 ?_
  refine lv_iload_n hx hb dX2_numberAt_4 rfl (lv_at hl 2 rfl) ?_
  have hP_1 := hP.sub (ws' := [(k0, .inr (1, [.ref k1])), (k1, .inl (cI, 6, .inl kd))]) [1, 2] rfl
  refine rdV (As := [.int (nI h)]) (rest := []) hx hb hml hown hg (c_X1_at l D cI cB aS k0 k1 6 kd h (by first | assumption | omega) (by first | assumption | omega)) gm_95 vf_X1_at ⟨Nat.le_of_ble_eq_true rfl, Nat.le_of_ble_eq_true rfl⟩ ⟨rfl, rfl⟩ ⟨Nat.zero_le _, Nat.zero_le _⟩ (RP.preV hK hP_1 (q0 := 0) (ci := 1) rfl rfl) rfl hl.1 rfl (Nat.le_of_ble_eq_true rfl) dX2_numberAt_5 ?_
  refine lv_aload_n hx hb dX2_numberAt_8 rfl (lv_at hl 1 rfl) ?_
  refine lv_iload_n hx hb dX2_numberAt_9 rfl (lv_at hl 2 rfl) ?_
  have hP_2 := hP.sub (ws' := [(r0, .inr (1, [.ref r1])), (r1, .inl (cI, 6, .inl ag))]) [3, 4] rfl
  refine rdV (As := [.int (nI h)]) (rest := [.int (kd h)]) hx hb hml hown hg (c_X1_at l D cI cB aS r0 r1 6 ag h (by first | assumption | omega) (by first | assumption | omega)) gm_95 vf_X1_at ⟨Nat.le_of_ble_eq_true rfl, Nat.le_of_ble_eq_true rfl⟩ ⟨rfl, rfl⟩ ⟨Nat.zero_le _, Nat.zero_le _⟩ (RP.preV hK hP_2 (q0 := 0) (ci := 1) rfl rfl) rfl hl.1 rfl (Nat.le_of_ble_eq_true rfl) dX2_numberAt_10 ?_
  refine rdS (As := [.int (kd h), .int (ag h)]) (rest := []) hx hb hml hown hg (c_X2_numberOf l D cI cB aS (kd h) (ag h)) gm_105 sf_X2_numberOf ⟨Nat.le_of_ble_eq_true rfl, Nat.le_of_ble_eq_true rfl⟩ ⟨rfl, rfl⟩ ⟨Nat.zero_le _, Nat.zero_le _⟩ (RP.preS hK (fun k q h => by simp at h)) rfl hl.1 rfl (Nat.le_of_ble_eq_true rfl) dX2_numberAt_13 ?_
  exact rr_i hx hb hr hlocks dX2_numberAt_16 rfl
abbrev rm_X2_allNumbers : Room := { frames := 2, cells := 0, slots := 0, locals := 43 }
theorem vf_X2_numberAt : vfacts RX2 yX2_numberAt cX2_numberAt 3 (some .int) 2 := ⟨⟨rfl, by decide +kernel, by decide +kernel, by decide +kernel⟩, gm_103, gm_358, gm_2, gm_104⟩
set_option maxRecDepth 100000 in
set_option maxHeartbeats 4000000 in
theorem c_X2_allNumbers (l : Launch) (D : va_G) (cI cB : ClassId) (aS : Nat) (x0 k0 k1 r0 r1 n : Nat) (fs : List Value) (kd ag : Nat → Int32)  (f2 : fs[2]? = some (.int (nI n))) (f4 : fs[4]? = some (.ref k0)) (hn6 : n ≤ 6) : Met l yX2_allNumbers (mw yX2_allNumbers cX2_allNumbers 4 (some .int)) rm_X2_allNumbers (RP D cI cB aS ([(x0, .inr (2, fs)), (k0, .inr (1, [.ref k1])), (k1, .inl (cI, 6, .inl kd)), (r0, .inr (1, [.ref r1])), (r1, .inl (cI, 6, .inl ag))]) [.ref x0, .ref r0]) (vp_Si (fun r => r = (sm (nmF kd ag) n))) 0 0 (fun _ => False) := by
  refine met_of (by decide) (Nat.le_of_ble_eq_true rfl) ?_
  intro p e s m below meth c ls hx hb hr hml hown hg hlocks hin hK hP hl
  have hown : s.vm.findClass RX2 = some m.cls := hown
  have hl : lv_has ls 4 [(0, .ref x0), (1, .ref r0)] := hl
  refine lv_iconst (v := (nI 0)) hx hb dX2_allNumbers_0 (by decide) ?_
  refine lv_istore_n (lv' := [(2, .int (nI 0)), (0, .ref x0), (1, .ref r0)]) hx hb dX2_allNumbers_1 rfl hl (by decide) rfl (fun ls hl => ?_)
  refine lv_iconst (v := (nI 0)) hx hb dX2_allNumbers_2 (by decide) ?_
  refine lv_istore_n (lv' := [(3, .int (nI 0)), (2, .int (nI 0)), (0, .ref x0), (1, .ref r0)]) hx hb dX2_allNumbers_3 rfl hl (by decide) rfl (fun ls hl => ?_)
  -- loop at 4
  refine loopR (nL := 4) (B := n) (I := fun i => True) (lv := fun i => [(0, .ref x0), (1, .ref r0), (2, .int (sm (nmF kd ag) i)), (3, .int (nI i))]) 0 (Nat.zero_le _) (trivial) (by show lv_has ls 4 [(0, .ref x0), (1, .ref r0), (2, .int (sm (nmF kd ag) 0)), (3, .int (nI 0))]; exact lv_sub hl [2, 3, 1, 0] rfl) (fun i ls hj hI hl ih => ?_)
  have hl : lv_has ls 4 [(0, .ref x0), (1, .ref r0), (2, .int (sm (nmF kd ag) i)), (3, .int (nI i))] := hl
  have ih_4 := ih
  refine lv_iload_n hx hb dX2_allNumbers_4 rfl (lv_at hl 3 rfl) ?_
  refine lv_aload_n hx hb dX2_allNumbers_5 rfl (lv_at hl 0 rfl) ?_
  refine va_get (D := D) (ci := 2) (v := .int (nI n)) (C := RX2) (T := TX2) (N := 11) hx hb hg us_X2 hown hK.1 hP 0 rfl rfl 2 (by decide) (hg _ gm_68) (fun _ h9 => h9) f2 dX2_allNumbers_6 ?_
  refine nv_icmp_ge (tgt := 27) hx hb dX2_allNumbers_9 (by omega) (by omega) (by decide) (fun c_9 => ?_) (fun c_9 => ?_)
  · skip
    refine lv_iload_n hx hb dX2_allNumbers_27 rfl (lv_at hl 2 rfl) ?_
    exact rr_i hx hb hr hlocks dX2_allNumbers_28 (by rw [show i = n by omega])
  · skip
    refine lv_iload_n hx hb dX2_allNumbers_12 rfl (lv_at hl 2 rfl) ?_
    refine lv_aload_n hx hb dX2_allNumbers_13 rfl (lv_at hl 0 rfl) ?_
    refine lv_aload_n hx hb dX2_allNumbers_14 rfl (lv_at hl 1 rfl) ?_
    refine lv_iload_n hx hb dX2_allNumbers_15 rfl (lv_at hl 3 rfl) ?_
    refine rdV (As := [.ref r0, .int (nI i)]) (rest := [.int (sm (nmF kd ag) i)]) hx hb hml hown hg (c_X2_numberAt l D cI cB aS x0 k0 k1 r0 r1 n fs kd ag i f2 f4 (by first | assumption | omega) (by first | assumption | omega)) gm_102 vf_X2_numberAt ⟨Nat.le_of_ble_eq_true rfl, Nat.le_of_ble_eq_true rfl⟩ ⟨rfl, rfl⟩ ⟨Nat.zero_le _, Nat.zero_le _⟩ (RP.preV hK hP (q0 := 0) (ci := 2) rfl rfl) rfl hl.1 rfl (Nat.le_of_ble_eq_true rfl) dX2_allNumbers_16 ?_
    refine lv_iadd hx hb dX2_allNumbers_19 ?_
    refine lv_istore_n (lv' := [(2, .int ((sm (nmF kd ag) i) + (nmF kd ag i))), (0, .ref x0), (1, .ref r0), (3, .int (nI i))]) hx hb dX2_allNumbers_20 rfl hl (by decide) rfl (fun ls hl => ?_)
    refine lv_iinc (v := (nI (i + 1))) (lv' := [(3, .int (nI (i + 1))), (2, .int ((sm (nmF kd ag) i) + (nmF kd ag i))), (0, .ref x0), (1, .ref r0)]) hx hb dX2_allNumbers_21 hl (k := 3) rfl (nI_i1 _) (by decide) rfl (fun ls hl => ?_)
    refine lv_goto (tgt := 4) hx hb dX2_allNumbers_24 (by decide) ?_
    exact ih_4 _ (by omega) (trivial) (by show lv_has ls 4 [(0, .ref x0), (1, .ref r0), (2, .int (sm (nmF kd ag) (i + 1))), (3, .int (nI (i + 1)))]; rw [show (sm (nmF kd ag) (i + 1)) = (sm (nmF kd ag) i) + (nmF kd ag i) from rfl]; exact lv_sub hl [2, 3, 1, 0] rfl)
abbrev rm_X2_turnInWalk : Room := { frames := 2, cells := 0, slots := 0, locals := 43 }
set_option maxRecDepth 100000 in
set_option maxHeartbeats 4000000 in
theorem c_X2_turnInWalk (l : Launch) (D : va_G) (cI cB : ClassId) (aS : Nat) (x0 k0 k1 r0 r1 n : Nat) (fs : List Value) (kd ag : Nat → Int32) (h : Nat) (f2 : fs[2]? = some (.int (nI n))) (f4 : fs[4]? = some (.ref k0)) (qh : h < n) (hn6 : n ≤ 6) : Met l yX2_turnInWalk (mw yX2_turnInWalk cX2_turnInWalk 7 (some .int)) rm_X2_turnInWalk (RP D cI cB aS ([(x0, .inr (2, fs)), (k0, .inr (1, [.ref k1])), (k1, .inl (cI, 6, .inl kd)), (r0, .inr (1, [.ref r1])), (r1, .inl (cI, 6, .inl ag))]) [.ref x0, .ref r0, .int (nI h)]) (vp_Si (fun r => r = (nI (ordF n (nmF kd ag) h)))) 0 0 (fun _ => False) := by
  refine met_of (by decide) (Nat.le_of_ble_eq_true rfl) ?_
  intro p e s m below meth c ls hx hb hr hml hown hg hlocks hin hK hP hl
  have hown : s.vm.findClass RX2 = some m.cls := hown
  have hl : lv_has ls 7 [(0, .ref x0), (1, .ref r0), (2, .int (nI h))] := hl
  refine lv_aload_n hx hb dX2_turnInWalk_0 rfl (lv_at hl 0 rfl) ?_
  refine lv_aload_n hx hb dX2_turnInWalk_1 rfl (lv_at hl 1 rfl) ?_
  refine lv_iload_n hx hb dX2_turnInWalk_2 rfl (lv_at hl 2 rfl) ?_
  refine rdV (As := [.ref r0, .int (nI h)]) (rest := []) hx hb hml hown hg (c_X2_numberAt l D cI cB aS x0 k0 k1 r0 r1 n fs kd ag h f2 f4 (by first | assumption | omega) (by first | assumption | omega)) gm_102 vf_X2_numberAt ⟨Nat.le_of_ble_eq_true rfl, Nat.le_of_ble_eq_true rfl⟩ ⟨rfl, rfl⟩ ⟨Nat.zero_le _, Nat.zero_le _⟩ (RP.preV hK hP (q0 := 0) (ci := 2) rfl rfl) rfl hl.1 rfl (Nat.le_of_ble_eq_true rfl) dX2_turnInWalk_3 ?_
  refine lv_istore_n (lv' := [(3, .int (nmF kd ag h)), (0, .ref x0), (1, .ref r0), (2, .int (nI h))]) hx hb dX2_turnInWalk_6 rfl hl (by decide) rfl (fun ls hl => ?_)
  refine lv_iconst (v := (nI 0)) hx hb dX2_turnInWalk_7 (by decide) ?_
  refine lv_istore (lv' := [(4, .int (nI 0)), (3, .int (nmF kd ag h)), (0, .ref x0), (1, .ref r0), (2, .int (nI h))]) hx hb dX2_turnInWalk_8 hl (by decide) rfl (fun ls hl => ?_)
  refine lv_iconst (v := (nI 0)) hx hb dX2_turnInWalk_10 (by decide) ?_
  refine lv_istore (lv' := [(5, .int (nI 0)), (4, .int (nI 0)), (3, .int (nmF kd ag h)), (0, .ref x0), (1, .ref r0), (2, .int (nI h))]) hx hb dX2_turnInWalk_11 hl (by decide) rfl (fun ls hl => ?_)
  -- loop at 13
  refine loopR (nL := 7) (B := n) (I := fun i => True) (lv := fun i => [(0, .ref x0), (1, .ref r0), (2, .int (nI h)), (3, .int (nmF kd ag h)), (4, .int (nI (cn (ordP (nmF kd ag) h) i))), (5, .int (nI i))]) 0 (Nat.zero_le _) (trivial) (by show lv_has ls 7 [(0, .ref x0), (1, .ref r0), (2, .int (nI h)), (3, .int (nmF kd ag h)), (4, .int (nI (cn (ordP (nmF kd ag) h) 0))), (5, .int (nI 0))]; exact lv_sub hl [3, 4, 5, 2, 1, 0] rfl) (fun i ls hj hI hl ih => ?_)
  have hl : lv_has ls 7 [(0, .ref x0), (1, .ref r0), (2, .int (nI h)), (3, .int (nmF kd ag h)), (4, .int (nI (cn (ordP (nmF kd ag) h) i))), (5, .int (nI i))] := hl
  have ih_13 := ih
  refine lv_iload hx hb dX2_turnInWalk_13 (lv_at hl 5 rfl) ?_
  refine lv_aload_n hx hb dX2_turnInWalk_15 rfl (lv_at hl 0 rfl) ?_
  refine va_get (D := D) (ci := 2) (v := .int (nI n)) (C := RX2) (T := TX2) (N := 11) hx hb hg us_X2 hown hK.1 hP 0 rfl rfl 2 (by decide) (hg _ gm_68) (fun _ h9 => h9) f2 dX2_turnInWalk_16 ?_
  refine nv_icmp_ge (tgt := 58) hx hb dX2_turnInWalk_19 (by omega) (by omega) (by decide) (fun c_19 => ?_) (fun c_19 => ?_)
  · skip
    refine lv_iload hx hb dX2_turnInWalk_58 (lv_at hl 4 rfl) ?_
    exact rr_i hx hb hr hlocks dX2_turnInWalk_60 (by rw [show i = n by omega]; rfl)
  · skip
    refine lv_aload_n hx hb dX2_turnInWalk_22 rfl (lv_at hl 0 rfl) ?_
    refine lv_aload_n hx hb dX2_turnInWalk_23 rfl (lv_at hl 1 rfl) ?_
    refine lv_iload hx hb dX2_turnInWalk_24 (lv_at hl 5 rfl) ?_
    refine rdV (As := [.ref r0, .int (nI i)]) (rest := []) hx hb hml hown hg (c_X2_numberAt l D cI cB aS x0 k0 k1 r0 r1 n fs kd ag i f2 f4 (by first | assumption | omega) (by first | assumption | omega)) gm_102 vf_X2_numberAt ⟨Nat.le_of_ble_eq_true rfl, Nat.le_of_ble_eq_true rfl⟩ ⟨rfl, rfl⟩ ⟨Nat.zero_le _, Nat.zero_le _⟩ (RP.preV hK hP (q0 := 0) (ci := 2) rfl rfl) rfl hl.1 rfl (Nat.le_of_ble_eq_true rfl) dX2_turnInWalk_26 ?_
    refine lv_istore (lv' := [(6, .int (nmF kd ag i)), (0, .ref x0), (1, .ref r0), (2, .int (nI h)), (3, .int (nmF kd ag h)), (4, .int (nI (cn (ordP (nmF kd ag) h) i))), (5, .int (nI i))]) hx hb dX2_turnInWalk_29 hl (by decide) rfl (fun ls hl => ?_)
    refine lv_iload hx hb dX2_turnInWalk_31 (lv_at hl 0 rfl) ?_
    refine lv_iload_n hx hb dX2_turnInWalk_33 rfl (lv_at hl 4 rfl) ?_
    refine lv_icmp_lt (tgt := 49) hx hb dX2_turnInWalk_34 (by decide) (fun c_34 => ?_) (fun c_34 => ?_)
    · skip
      refine lv_iinc (v := (nI (cn (ordP (nmF kd ag) h) i + 1))) (lv' := [(4, .int (nI (cn (ordP (nmF kd ag) h) i + 1))), (6, .int (nmF kd ag i)), (0, .ref x0), (1, .ref r0), (2, .int (nI h)), (3, .int (nmF kd ag h)), (5, .int (nI i))]) hx hb dX2_turnInWalk_49 hl (k := 5) rfl (nI_i1 _) (by decide) rfl (fun ls hl => ?_)
      refine lv_iinc (v := (nI (i + 1))) (lv' := [(5, .int (nI (i + 1))), (4, .int (nI (cn (ordP (nmF kd ag) h) i + 1))), (6, .int (nmF kd ag i)), (0, .ref x0), (1, .ref r0), (2, .int (nI h)), (3, .int (nmF kd ag h))]) hx hb dX2_turnInWalk_52 hl (k := 6) rfl (nI_i1 _) (by decide) rfl (fun ls hl => ?_)
      refine lv_goto (tgt := 13) hx hb dX2_turnInWalk_55 (by decide) ?_
      exact ih_13 _ (by omega) (trivial) (by show lv_has ls 7 [(0, .ref x0), (1, .ref r0), (2, .int (nI h)), (3, .int (nmF kd ag h)), (4, .int (nI (cn (ordP (nmF kd ag) h) (i + 1)))), (5, .int (nI (i + 1)))]; rw [show (cn (ordP (nmF kd ag) h) (i + 1)) = cn (ordP (nmF kd ag) h) i + 1 from cn_t (decide_eq_true (Or.inl c_34))]; exact lv_sub hl [3, 4, 5, 6, 1, 0] rfl)
    · skip
      refine lv_iload hx hb dX2_turnInWalk_37 (lv_at hl 0 rfl) ?_
      refine lv_iload_n hx hb dX2_turnInWalk_39 rfl (lv_at hl 4 rfl) ?_
      refine lv_icmp_ne (tgt := 52) hx hb dX2_turnInWalk_40 (by decide) (fun c_40 => ?_) (fun c_40 => ?_)
      · skip
        refine lv_iinc (v := (nI (i + 1))) (lv' := [(5, .int (nI (i + 1))), (6, .int (nmF kd ag i)), (0, .ref x0), (1, .ref r0), (2, .int (nI h)), (3, .int (nmF kd ag h)), (4, .int (nI (cn (ordP (nmF kd ag) h) i)))]) hx hb dX2_turnInWalk_52 hl (k := 6) rfl (nI_i1 _) (by decide) rfl (fun ls hl => ?_)
        refine lv_goto (tgt := 13) hx hb dX2_turnInWalk_55 (by decide) ?_
        exact ih_13 _ (by omega) (trivial) (by show lv_has ls 7 [(0, .ref x0), (1, .ref r0), (2, .int (nI h)), (3, .int (nmF kd ag h)), (4, .int (nI (cn (ordP (nmF kd ag) h) (i + 1)))), (5, .int (nI (i + 1)))]; rw [show (cn (ordP (nmF kd ag) h) (i + 1)) = cn (ordP (nmF kd ag) h) i from cn_f (decide_eq_false (fun q => q.elim c_34 (fun q => c_40 q.1)))]; exact lv_sub hl [2, 3, 4, 5, 6, 0] rfl)
      · skip
        refine lv_iload hx hb dX2_turnInWalk_43 (lv_at hl 6 rfl) ?_
        refine lv_iload_n hx hb dX2_turnInWalk_45 rfl (lv_at hl 3 rfl) ?_
        refine nv_icmp_ge (tgt := 52) hx hb dX2_turnInWalk_46 (by omega) (by omega) (by decide) (fun c_46 => ?_) (fun c_46 => ?_)
        · skip
          refine lv_iinc (v := (nI (i + 1))) (lv' := [(5, .int (nI (i + 1))), (6, .int (nmF kd ag i)), (0, .ref x0), (1, .ref r0), (2, .int (nI h)), (3, .int (nmF kd ag h)), (4, .int (nI (cn (ordP (nmF kd ag) h) i)))]) hx hb dX2_turnInWalk_52 hl (k := 6) rfl (nI_i1 _) (by decide) rfl (fun ls hl => ?_)
          refine lv_goto (tgt := 13) hx hb dX2_turnInWalk_55 (by decide) ?_
          exact ih_13 _ (by omega) (trivial) (by show lv_has ls 7 [(0, .ref x0), (1, .ref r0), (2, .int (nI h)), (3, .int (nmF kd ag h)), (4, .int (nI (cn (ordP (nmF kd ag) h) (i + 1)))), (5, .int (nI (i + 1)))]; rw [show (cn (ordP (nmF kd ag) h) (i + 1)) = cn (ordP (nmF kd ag) h) i from cn_f (decide_eq_false (fun q => q.elim c_34 (fun q => absurd q.2 (by omega))))]; exact lv_sub hl [2, 3, 4, 5, 6, 0] rfl)
        · skip
          refine lv_iinc (v := (nI (cn (ordP (nmF kd ag) h) i + 1))) (lv' := [(4, .int (nI (cn (ordP (nmF kd ag) h) i + 1))), (6, .int (nmF kd ag i)), (0, .ref x0), (1, .ref r0), (2, .int (nI h)), (3, .int (nmF kd ag h)), (5, .int (nI i))]) hx hb dX2_turnInWalk_49 hl (k := 5) rfl (nI_i1 _) (by decide) rfl (fun ls hl => ?_)
          refine lv_iinc (v := (nI (i + 1))) (lv' := [(5, .int (nI (i + 1))), (4, .int (nI (cn (ordP (nmF kd ag) h) i + 1))), (6, .int (nmF kd ag i)), (0, .ref x0), (1, .ref r0), (2, .int (nI h)), (3, .int (nmF kd ag h))]) hx hb dX2_turnInWalk_52 hl (k := 6) rfl (nI_i1 _) (by decide) rfl (fun ls hl => ?_)
          refine lv_goto (tgt := 13) hx hb dX2_turnInWalk_55 (by decide) ?_
          exact ih_13 _ (by omega) (trivial) (by show lv_has ls 7 [(0, .ref x0), (1, .ref r0), (2, .int (nI h)), (3, .int (nmF kd ag h)), (4, .int (nI (cn (ordP (nmF kd ag) h) (i + 1)))), (5, .int (nI (i + 1)))]; rw [show (cn (ordP (nmF kd ag) h) (i + 1)) = cn (ordP (nmF kd ag) h) i + 1 from cn_t (decide_eq_true (Or.inr ⟨c_40, c_46⟩))]; exact lv_sub hl [3, 4, 5, 6, 1, 0] rfl)
abbrev rm_X2_houseOfTurn : Room := { frames := 3, cells := 0, slots := 0, locals := 69 }
theorem vf_X2_turnInWalk : vfacts RX2 yX2_turnInWalk cX2_turnInWalk 7 (some .int) 2 := ⟨⟨rfl, by decide +kernel, by decide +kernel, by decide +kernel⟩, gm_121, gm_362, gm_2, gm_122⟩
set_option maxRecDepth 100000 in
set_option maxHeartbeats 4000000 in
theorem c_X2_houseOfTurn (l : Launch) (D : va_G) (cI cB : ClassId) (aS : Nat) (x0 k0 k1 r0 r1 n : Nat) (fs : List Value) (kd ag : Nat → Int32) (t : Nat) (f2 : fs[2]? = some (.int (nI n))) (f4 : fs[4]? = some (.ref k0)) (qt : t ≤ n) (hn6 : n ≤ 6) : Met l yX2_houseOfTurn (mw yX2_houseOfTurn cX2_houseOfTurn 4 (some .int)) rm_X2_houseOfTurn (RP D cI cB aS ([(x0, .inr (2, fs)), (k0, .inr (1, [.ref k1])), (k1, .inl (cI, 6, .inl kd)), (r0, .inr (1, [.ref r1])), (r1, .inl (cI, 6, .inl ag))]) [.ref x0, .ref r0, .int (nI t)]) (vp_Si (fun r => r = (nI (hotF n (nmF kd ag) t n)))) 0 0 (fun _ => False) := by
  refine met_of (by decide) (Nat.le_of_ble_eq_true rfl) ?_
  intro p e s m below meth c ls hx hb hr hml hown hg hlocks hin hK hP hl
  have hown : s.vm.findClass RX2 = some m.cls := hown
  have hl : lv_has ls 4 [(0, .ref x0), (1, .ref r0), (2, .int (nI t))] := hl
  refine lv_iconst (v := (nI 0)) hx hb dX2_houseOfTurn_0 (by decide) ?_
  refine lv_istore_n (lv' := [(3, .int (nI 0)), (0, .ref x0), (1, .ref r0), (2, .int (nI t))]) hx hb dX2_houseOfTurn_1 rfl hl (by decide) rfl (fun ls hl => ?_)
  -- loop at 2
  refine loopR (nL := 4) (B := n) (I := fun i => hotF n (nmF kd ag) t (n - i) = hotF n (nmF kd ag) t n) (lv := fun i => [(0, .ref x0), (1, .ref r0), (2, .int (nI t)), (3, .int (nI i))]) 0 (Nat.zero_le _) (rfl) (lv_sub hl [1, 2, 3, 0] rfl) (fun i ls hj hI hl ih => ?_)
  have hl : lv_has ls 4 [(0, .ref x0), (1, .ref r0), (2, .int (nI t)), (3, .int (nI i))] := hl
  have hI : hotF n (nmF kd ag) t (n - i) = hotF n (nmF kd ag) t n := hI
  have ih_2 := ih
  refine lv_iload_n hx hb dX2_houseOfTurn_2 rfl (lv_at hl 3 rfl) ?_
  refine lv_aload_n hx hb dX2_houseOfTurn_3 rfl (lv_at hl 0 rfl) ?_
  refine va_get (D := D) (ci := 2) (v := .int (nI n)) (C := RX2) (T := TX2) (N := 11) hx hb hg us_X2 hown hK.1 hP 0 rfl rfl 2 (by decide) (hg _ gm_68) (fun _ h9 => h9) f2 dX2_houseOfTurn_4 ?_
  refine nv_icmp_ge (tgt := 28) hx hb dX2_houseOfTurn_7 (by omega) (by omega) (by decide) (fun c_7 => ?_) (fun c_7 => ?_)
  · skip
    refine lv_iconst (v := (nI 0)) hx hb dX2_houseOfTurn_28 (by decide) ?_
    exact rr_i hx hb hr hlocks dX2_houseOfTurn_29 (by rw [← hI, show n - i = 0 by omega]; rfl)
  · skip
    refine lv_aload_n hx hb dX2_houseOfTurn_10 rfl (lv_at hl 0 rfl) ?_
    refine lv_aload_n hx hb dX2_houseOfTurn_11 rfl (lv_at hl 1 rfl) ?_
    refine lv_iload_n hx hb dX2_houseOfTurn_12 rfl (lv_at hl 3 rfl) ?_
    refine rdV (As := [.ref r0, .int (nI i)]) (rest := []) hx hb hml hown hg (c_X2_turnInWalk l D cI cB aS x0 k0 k1 r0 r1 n fs kd ag i f2 f4 (by first | assumption | omega) (by first | assumption | omega)) gm_120 vf_X2_turnInWalk ⟨Nat.le_of_ble_eq_true rfl, Nat.le_of_ble_eq_true rfl⟩ ⟨rfl, rfl⟩ ⟨Nat.zero_le _, Nat.zero_le _⟩ (RP.preV hK hP (q0 := 0) (ci := 2) rfl rfl) rfl hl.1 rfl (Nat.le_of_ble_eq_true rfl) dX2_houseOfTurn_13 ?_
    refine lv_iload_n hx hb dX2_houseOfTurn_16 rfl (lv_at hl 2 rfl) ?_
    refine nv_icmp_ne (tgt := 22) hx hb dX2_houseOfTurn_17 (by have := ordF_le (n := n) (v := nmF kd ag) (h := i); omega) (by omega) (by decide) (fun c_17 => ?_) (fun c_17 => ?_)
    · skip
      refine lv_iinc (v := (nI (i + 1))) (lv' := [(3, .int (nI (i + 1))), (0, .ref x0), (1, .ref r0), (2, .int (nI t))]) hx hb dX2_houseOfTurn_22 hl (k := 3) rfl (nI_i1 _) (by decide) rfl (fun ls hl => ?_)
      refine lv_goto (tgt := 2) hx hb dX2_houseOfTurn_25 (by decide) ?_
      exact ih_2 _ (by omega) ((by rw [← hI, hot_s c_7, if_neg c_17])) (lv_sub hl [1, 2, 3, 0] rfl)
    · skip
      refine lv_iload_n hx hb dX2_houseOfTurn_20 rfl (lv_at hl 3 rfl) ?_
      exact rr_i hx hb hr hlocks dX2_houseOfTurn_21 (by rw [← hI, hot_s c_7, if_pos c_17])
abbrev rm_X2_lengthOfWalk : Room := { frames := 4, cells := 0, slots := 0, locals := 92 }
theorem vf_X2_houseOfTurn : vfacts RX2 yX2_houseOfTurn cX2_houseOfTurn 4 (some .int) 2 := ⟨⟨rfl, by decide +kernel, by decide +kernel, by decide +kernel⟩, gm_179, gm_368, gm_2, gm_180⟩
set_option maxRecDepth 100000 in
set_option maxHeartbeats 4000000 in
theorem c_X2_lengthOfWalk (l : Launch) (D : va_G) (cI cB : ClassId) (aS : Nat) (x0 k0 k1 r0 r1 n : Nat) (fs : List Value) (kd ag : Nat → Int32)  (f2 : fs[2]? = some (.int (nI n))) (f4 : fs[4]? = some (.ref k0)) (hn6 : n ≤ 6) : Met l yX2_lengthOfWalk (mw yX2_lengthOfWalk cX2_lengthOfWalk 6 (some .int)) rm_X2_lengthOfWalk (RP D cI cB aS ([(x0, .inr (2, fs)), (k0, .inr (1, [.ref k1])), (k1, .inl (cI, 6, .inl kd)), (r0, .inr (1, [.ref r1])), (r1, .inl (cI, 6, .inl ag))]) [.ref x0, .ref r0]) (vp_Si (fun r => r = (nI (wkF n (nmF kd ag) n)))) 0 0 (fun _ => False) := by
  refine met_of (by decide) (Nat.le_of_ble_eq_true rfl) ?_
  intro p e s m below meth c ls hx hb hr hml hown hg hlocks hin hK hP hl
  have hown : s.vm.findClass RX2 = some m.cls := hown
  have hl : lv_has ls 6 [(0, .ref x0), (1, .ref r0)] := hl
  refine lv_iconst (v := (nI 0)) hx hb dX2_lengthOfWalk_0 (by decide) ?_
  refine lv_istore_n (lv' := [(2, .int (nI 0)), (0, .ref x0), (1, .ref r0)]) hx hb dX2_lengthOfWalk_1 rfl hl (by decide) rfl (fun ls hl => ?_)
  refine lv_iconst (v := (nI 0)) hx hb dX2_lengthOfWalk_2 (by decide) ?_
  refine lv_istore_n (lv' := [(3, .int (nI 0)), (2, .int (nI 0)), (0, .ref x0), (1, .ref r0)]) hx hb dX2_lengthOfWalk_3 rfl hl (by decide) rfl (fun ls hl => ?_)
  refine lv_iconst (v := (nI 0)) hx hb dX2_lengthOfWalk_4 (by decide) ?_
  refine lv_istore (lv' := [(4, .int (nI 0)), (3, .int (nI 0)), (2, .int (nI 0)), (0, .ref x0), (1, .ref r0)]) hx hb dX2_lengthOfWalk_5 hl (by decide) rfl (fun ls hl => ?_)
  -- loop at 7
  refine loopR (nL := 6) (B := n) (I := fun t => True) (lv := fun t => [(0, .ref x0), (1, .ref r0), (2, .int (nI (wkF n (nmF kd ag) t))), (3, .int (nI (wkP n (nmF kd ag) t))), (4, .int (nI t))]) 0 (Nat.zero_le _) (trivial) (by show lv_has ls 6 [(0, .ref x0), (1, .ref r0), (2, .int (nI (wkF n (nmF kd ag) 0))), (3, .int (nI (wkP n (nmF kd ag) 0))), (4, .int (nI 0))]; exact lv_sub hl [3, 4, 2, 1, 0] rfl) (fun t ls hj hI hl ih => ?_)
  have hl : lv_has ls 6 [(0, .ref x0), (1, .ref r0), (2, .int (nI (wkF n (nmF kd ag) t))), (3, .int (nI (wkP n (nmF kd ag) t))), (4, .int (nI t))] := hl
  have ih_7 := ih
  refine lv_iload hx hb dX2_lengthOfWalk_7 (lv_at hl 4 rfl) ?_
  refine lv_aload_n hx hb dX2_lengthOfWalk_9 rfl (lv_at hl 0 rfl) ?_
  refine va_get (D := D) (ci := 2) (v := .int (nI n)) (C := RX2) (T := TX2) (N := 11) hx hb hg us_X2 hown hK.1 hP 0 rfl rfl 2 (by decide) (hg _ gm_68) (fun _ h9 => h9) f2 dX2_lengthOfWalk_10 ?_
  refine nv_icmp_ge (tgt := 44) hx hb dX2_lengthOfWalk_13 (by omega) (by omega) (by decide) (fun c_13 => ?_) (fun c_13 => ?_)
  · skip
    refine lv_iload_n hx hb dX2_lengthOfWalk_44 rfl (lv_at hl 2 rfl) ?_
    exact rr_i hx hb hr hlocks dX2_lengthOfWalk_45 (by rw [show t = n by omega])
  · skip
    refine lv_aload_n hx hb dX2_lengthOfWalk_16 rfl (lv_at hl 0 rfl) ?_
    refine lv_aload_n hx hb dX2_lengthOfWalk_17 rfl (lv_at hl 1 rfl) ?_
    refine lv_iload hx hb dX2_lengthOfWalk_18 (lv_at hl 4 rfl) ?_
    refine rdV (As := [.ref r0, .int (nI t)]) (rest := []) hx hb hml hown hg (c_X2_houseOfTurn l D cI cB aS x0 k0 k1 r0 r1 n fs kd ag t f2 f4 (by first | assumption | omega) (by first | assumption | omega)) gm_178 vf_X2_houseOfTurn ⟨Nat.le_of_ble_eq_true rfl, Nat.le_of_ble_eq_true rfl⟩ ⟨rfl, rfl⟩ ⟨Nat.zero_le _, Nat.zero_le _⟩ (RP.preV hK hP (q0 := 0) (ci := 2) rfl rfl) rfl hl.1 rfl (Nat.le_of_ble_eq_true rfl) dX2_lengthOfWalk_20 ?_
    refine lv_istore (lv' := [(5, .int (nI (hotF n (nmF kd ag) t n))), (0, .ref x0), (1, .ref r0), (2, .int (nI (wkF n (nmF kd ag) t))), (3, .int (nI (wkP n (nmF kd ag) t))), (4, .int (nI t))]) hx hb dX2_lengthOfWalk_23 hl (by decide) rfl (fun ls hl => ?_)
    refine lv_iload_n hx hb dX2_lengthOfWalk_25 rfl (lv_at hl 3 rfl) ?_
    refine lv_iload hx hb dX2_lengthOfWalk_26 (lv_at hl 0 rfl) ?_
    refine lv_iload_n hx hb dX2_lengthOfWalk_28 rfl (lv_at hl 4 rfl) ?_
    refine lv_isub hx hb dX2_lengthOfWalk_29 ?_
    refine va_mabs hx hb (hml.trans hl.1.symm) hown (hg _ gm_181) (hg _ gm_182) (hg _ gm_9) (hg _ gm_183) (Nat.le_of_ble_eq_true rfl) (Nat.le_of_ble_eq_true rfl) (Nat.zero_le _) (Nat.zero_le _) dX2_lengthOfWalk_30 ?_
    rw [show ((if 0 ≤ ((nI (hotF n (nmF kd ag) t n)) - (nI (wkP n (nmF kd ag) t))) then ((nI (hotF n (nmF kd ag) t n)) - (nI (wkP n (nmF kd ag) t))) else 0 - ((nI (hotF n (nmF kd ag) t n)) - (nI (wkP n (nmF kd ag) t)))) : Int32) = (nI (dstF (hotF n (nmF kd ag) t n) (wkP n (nmF kd ag) t))) from abs_d (by have := hot_lt (n := n) (v := (nmF kd ag)) (t := t) (k := n) (by omega) (Nat.le_refl _); omega) (by have := wkP_lt (n := n) (v := (nmF kd ag)) (t := t) (by omega); omega)]
    refine nv_iadd hx hb dX2_lengthOfWalk_33 ?_
    refine lv_istore_n (lv' := [(2, .int (nI (wkF n (nmF kd ag) t + (dstF (hotF n (nmF kd ag) t n) (wkP n (nmF kd ag) t))))), (5, .int (nI (hotF n (nmF kd ag) t n))), (0, .ref x0), (1, .ref r0), (3, .int (nI (wkP n (nmF kd ag) t))), (4, .int (nI t))]) hx hb dX2_lengthOfWalk_34 rfl hl (by decide) rfl (fun ls hl => ?_)
    refine lv_iload hx hb dX2_lengthOfWalk_35 (lv_at hl 1 rfl) ?_
    refine lv_istore_n (lv' := [(3, .int (nI (hotF n (nmF kd ag) t n))), (2, .int (nI (wkF n (nmF kd ag) t + (dstF (hotF n (nmF kd ag) t n) (wkP n (nmF kd ag) t))))), (5, .int (nI (hotF n (nmF kd ag) t n))), (0, .ref x0), (1, .ref r0), (4, .int (nI t))]) hx hb dX2_lengthOfWalk_37 rfl hl (by decide) rfl (fun ls hl => ?_)
    refine lv_iinc (v := (nI (t + 1))) (lv' := [(4, .int (nI (t + 1))), (3, .int (nI (hotF n (nmF kd ag) t n))), (2, .int (nI (wkF n (nmF kd ag) t + (dstF (hotF n (nmF kd ag) t n) (wkP n (nmF kd ag) t))))), (5, .int (nI (hotF n (nmF kd ag) t n))), (0, .ref x0), (1, .ref r0)]) hx hb dX2_lengthOfWalk_38 hl (k := 5) rfl (nI_i1 _) (by decide) rfl (fun ls hl => ?_)
    refine lv_goto (tgt := 7) hx hb dX2_lengthOfWalk_41 (by decide) ?_
    exact ih_7 _ (by omega) (trivial) (by show lv_has ls 6 [(0, .ref x0), (1, .ref r0), (2, .int (nI (wkF n (nmF kd ag) (t + 1)))), (3, .int (nI (wkP n (nmF kd ag) (t + 1)))), (4, .int (nI (t + 1)))]; rw [show (wkF n (nmF kd ag) (t + 1)) = wkF n (nmF kd ag) t + (dstF (hotF n (nmF kd ag) t n) (wkP n (nmF kd ag) t)) from rfl, show (wkP n (nmF kd ag) (t + 1)) = hotF n (nmF kd ag) t n from rfl]; exact lv_sub hl [4, 5, 2, 1, 0] rfl)
end
section
abbrev rm_X2_isDay : Room := { frames := 0, cells := 0, slots := 0, locals := 0 }
set_option maxRecDepth 100000 in
set_option maxHeartbeats 4000000 in
theorem c_X2_isDay (l : Launch) (D : va_G) (cI cB : ClassId) (aS : Nat) (a : Nat → Nat) (pl n st : Nat) (ik : Int32) (td nd nh : Nat) (bs : Int32) (ktd knd knh : Nat) (kbs : Int32) (pg kd ag pa bo dm dn hh hn kag kpa kbo kdm kdn khh khn wb ps ty : Nat → Int32) (x : Int32) (hn6 : n ≤ 6) : Met l yX2_isDay (mw yX2_isDay cX2_isDay 2 (some .boolean)) rm_X2_isDay (RP D cI cB aS (XW cI a pl n st ik td nd nh bs ktd knd knh kbs pg kd ag pa bo dm dn hh hn kag kpa kbo kdm kdn khh khn wb ps ty) [.ref (a 0), .int x]) (vp_Si (fun r => r = (bi (dIn n td x)))) 0 0 (fun _ => False) := by
  refine met_of (by decide) (Nat.le_of_ble_eq_true rfl) ?_
  intro p e s m below meth c ls hx hb hr hml hown hg hlocks hin hK hP hl
  have hown : s.vm.findClass RX2 = some m.cls := hown
  have hl : lv_has ls 2 [(0, .ref (a 0)), (1, .int x)] := hl
  refine lv_aload_n hx hb dX2_isDay_0 rfl (lv_at hl 0 rfl) ?_
  refine va_get (D := D) (ci := 2) (v := .int (nI n)) (C := RX2) (T := TX2) (N := 11) hx hb hg us_X2 hown hK.1 hP 0 XW_g0 rfl 2 (by decide) (hg _ gm_68) (fun _ h9 => h9) rfl dX2_isDay_1 ?_
  refine nv_if_le (tgt := 26) hx hb dX2_isDay_4 (by omega) (by decide) (fun c_4 => ?_) (fun c_4 => ?_)
  · skip
    refine lv_iconst (v := (nI 0)) hx hb dX2_isDay_26 (by decide) ?_
    exact rr_z hx hb hr hlocks dX2_isDay_27 bi_nar (ret_f (fun h => absurd h.1 (by omega)))
  · skip
    refine lv_iload_n hx hb dX2_isDay_7 rfl (lv_at hl 1 rfl) ?_
    refine lv_if_lt (tgt := 26) hx hb dX2_isDay_8 (by decide) (fun c_8 => ?_) (fun c_8 => ?_)
    · skip
      refine lv_iconst (v := (nI 0)) hx hb dX2_isDay_26 (by decide) ?_
      exact rr_z hx hb hr hlocks dX2_isDay_27 bi_nar (ret_f (fun h => Int32.not_lt.mpr h.2.1 c_8))
    · skip
      refine lv_iload_n hx hb dX2_isDay_11 rfl (lv_at hl 1 rfl) ?_
      refine lv_aload_n hx hb dX2_isDay_12 rfl (lv_at hl 0 rfl) ?_
      refine va_get (D := D) (ci := 2) (v := .ref (a 5)) (C := RX2) (T := TX2) (N := 11) hx hb hg us_X2 hown hK.1 hP 0 XW_g0 rfl 5 (by decide) (hg _ gm_71) (fun _ h9 => h9) rfl dX2_isDay_13 ?_
      refine va_getN (D := D) (ci := 0) (v := .int (nI td)) (C := RX0) (T := TX0) (N := 11) hx hb hg us_X0 hown hK.1 hP 5 XW_g5 rfl 0 (by decide) (nl_112 hK) (fun _ h9 => h9) rfl dX2_isDay_16 ?_
      refine lv_icmp_gt (tgt := 26) hx hb dX2_isDay_19 (by decide) (fun c_19 => ?_) (fun c_19 => ?_)
      · skip
        refine lv_iconst (v := (nI 0)) hx hb dX2_isDay_26 (by decide) ?_
        exact rr_z hx hb hr hlocks dX2_isDay_27 bi_nar (ret_f (fun h => Int32.not_lt.mpr h.2.2 c_19))
      · skip
        refine lv_iconst (v := (nI 1)) hx hb dX2_isDay_22 (by decide) ?_
        refine lv_goto (tgt := 27) hx hb dX2_isDay_23 (by decide) ?_
        exact rr_z hx hb hr hlocks dX2_isDay_27 bi_nar (ret_t ⟨by omega, Int32.not_lt.mp c_8, Int32.not_lt.mp c_19⟩)
abbrev rm_X2_numberNow : Room := { frames := 2, cells := 0, slots := 0, locals := 43 }
set_option maxRecDepth 100000 in
set_option maxHeartbeats 4000000 in
theorem c_X2_numberNow (l : Launch) (D : va_G) (cI cB : ClassId) (aS : Nat) (a : Nat → Nat) (pl n st : Nat) (ik : Int32) (td nd nh : Nat) (bs : Int32) (ktd knd knh : Nat) (kbs : Int32) (pg kd ag pa bo dm dn hh hn kag kpa kbo kdm kdn khh khn wb ps ty : Nat → Int32) (h : Nat) (qh : h < n) (hn6 : n ≤ 6) : Met l yX2_numberNow (mw yX2_numberNow cX2_numberNow 2 (some .int)) rm_X2_numberNow (RP D cI cB aS (XW cI a pl n st ik td nd nh bs ktd knd knh kbs pg kd ag pa bo dm dn hh hn kag kpa kbo kdm kdn khh khn wb ps ty) [.ref (a 0), .int (nI h)]) (vp_Si (fun r => r = (nmF kd ag h))) 0 0 (fun _ => False) := by
  refine met_of (by decide) (Nat.le_of_ble_eq_true rfl) ?_
  intro p e s m below meth c ls hx hb hr hml hown hg hlocks hin hK hP hl
  have hown : s.vm.findClass RX2 = some m.cls := hown
  have hl : lv_has ls 2 [(0, .ref (a 0)), (1, .int (nI h))] := hl
  refine lv_aload_n hx hb dX2_numberNow_0 rfl (lv_at hl 0 rfl) ?_
  refine lv_aload_n hx hb dX2_numberNow_1 rfl (lv_at hl 0 rfl) ?_
  refine va_get (D := D) (ci := 2) (v := .ref (a 5)) (C := RX2) (T := TX2) (N := 11) hx hb hg us_X2 hown hK.1 hP 0 XW_g0 rfl 5 (by decide) (hg _ gm_71) (fun _ h9 => h9) rfl dX2_numberNow_2 ?_
  refine va_getN (D := D) (ci := 0) (v := .ref (a 6)) (C := RX0) (T := TX0) (N := 11) hx hb hg us_X0 hown hK.1 hP 5 XW_g5 rfl 4 (by decide) (nl_76 hK) (fun _ h9 => h9) rfl dX2_numberNow_5 ?_
  refine lv_iload_n hx hb dX2_numberNow_8 rfl (lv_at hl 1 rfl) ?_
  have hP_1 : va_P D vwCl [(a 0, .inr (2, [.ref (a 1), .int (nI pl), .int (nI n), .int (nI st), .ref (a 3), .ref (a 5), .ref (a 20), .int ik, .ref (a 35), .ref (a 37), .ref (a 39)])), (a 3, .inr (1, [.ref (a 4)])), (a 4, .inl (cI, 6, .inl kd)), (a 6, .inr (1, [.ref (a 13)])), (a 13, .inl (cI, 6, .inl ag))] _ := P_s5 hP XW_g0 XW_g3 XW_g4 XW_g6 XW_g13
  refine rdV (As := [.ref (a 6), .int (nI h)]) (rest := []) hx hb hml hown hg (c_X2_numberAt l D cI cB aS (a 0) (a 3) (a 4) (a 6) (a 13) n ([.ref (a 1), .int (nI pl), .int (nI n), .int (nI st), .ref (a 3), .ref (a 5), .ref (a 20), .int ik, .ref (a 35), .ref (a 37), .ref (a 39)]) kd ag h rfl rfl (by first | assumption | omega) (by first | assumption | omega)) gm_102 vf_X2_numberAt ⟨Nat.le_of_ble_eq_true rfl, Nat.le_of_ble_eq_true rfl⟩ ⟨rfl, rfl⟩ ⟨Nat.zero_le _, Nat.zero_le _⟩ (RP.preV hK hP_1 (q0 := 0) (ci := 2) rfl rfl) rfl hl.1 rfl (Nat.le_of_ble_eq_true rfl) dX2_numberNow_9 ?_
  exact rr_i hx hb hr hlocks dX2_numberNow_12 rfl
abbrev rm_X2_numberOn : Room := { frames := 1, cells := 0, slots := 0, locals := 21 }
theorem sf_X2_cellOf : sfacts RX2 yX2_cellOf cX2_cellOf 2 (some .int) 2 := ⟨⟨rfl, by decide +kernel, by decide +kernel, by decide +kernel⟩, gm_118, gm_2, gm_119⟩
set_option maxRecDepth 100000 in
set_option maxHeartbeats 4000000 in
theorem c_X2_numberOn (l : Launch) (D : va_G) (cI cB : ClassId) (aS : Nat) (a : Nat → Nat) (pl n st : Nat) (ik : Int32) (td nd nh : Nat) (bs : Int32) (ktd knd knh : Nat) (kbs : Int32) (pg kd ag pa bo dm dn hh hn kag kpa kbo kdm kdn khh khn wb ps ty : Nat → Int32) (h d : Nat) (qh : h < n) (hn6 : n ≤ 6) (qd : d ≤ td) (qt : td ≤ 30) : Met l yX2_numberOn (mw yX2_numberOn cX2_numberOn 4 (some .int)) rm_X2_numberOn (RP D cI cB aS (XW cI a pl n st ik td nd nh bs ktd knd knh kbs pg kd ag pa bo dm dn hh hn kag kpa kbo kdm kdn khh khn wb ps ty) [.ref (a 0), .int (nI h), .int (nI d)]) (vp_Si (fun r => r = (numOn kd ag pa td h d))) 0 0 (fun _ => False) := by
  refine met_of (by decide) (Nat.le_of_ble_eq_true rfl) ?_
  intro p e s m below meth c ls hx hb hr hml hown hg hlocks hin hK hP hl
  have hown : s.vm.findClass RX2 = some m.cls := hown
  have hl : lv_has ls 4 [(0, .ref (a 0)), (1, .int (nI h)), (2, .int (nI d))] := hl
  refine lv_iload_n hx hb dX2_numberOn_0 rfl (lv_at hl 2 rfl) ?_
  refine lv_aload_n hx hb dX2_numberOn_1 rfl (lv_at hl 0 rfl) ?_
  refine va_get (D := D) (ci := 2) (v := .ref (a 5)) (C := RX2) (T := TX2) (N := 11) hx hb hg us_X2 hown hK.1 hP 0 XW_g0 rfl 5 (by decide) (hg _ gm_71) (fun _ h9 => h9) rfl dX2_numberOn_2 ?_
  refine va_getN (D := D) (ci := 0) (v := .int (nI td)) (C := RX0) (T := TX0) (N := 11) hx hb hg us_X0 hown hK.1 hP 5 XW_g5 rfl 0 (by decide) (nl_112 hK) (fun _ h9 => h9) rfl dX2_numberOn_5 ?_
  refine nv_icmp_ne (tgt := 25) hx hb dX2_numberOn_8 (by omega) (by omega) (by decide) (fun c_8 => ?_) (fun c_8 => ?_)
  · skip
    refine lv_aload_n hx hb dX2_numberOn_25 rfl (lv_at hl 0 rfl) ?_
    refine va_get (D := D) (ci := 2) (v := .ref (a 5)) (C := RX2) (T := TX2) (N := 11) hx hb hg us_X2 hown hK.1 hP 0 XW_g0 rfl 5 (by decide) (hg _ gm_71) (fun _ h9 => h9) rfl dX2_numberOn_26 ?_
    refine va_getN (D := D) (ci := 0) (v := .ref (a 7)) (C := RX0) (T := TX0) (N := 11) hx hb hg us_X0 hown hK.1 hP 5 XW_g5 rfl 5 (by decide) (nl_115 hK) (fun _ h9 => h9) rfl dX2_numberOn_29 ?_
    refine lv_iload_n hx hb dX2_numberOn_32 rfl (lv_at hl 1 rfl) ?_
    refine lv_iload_n hx hb dX2_numberOn_33 rfl (lv_at hl 2 rfl) ?_
    refine rdS (As := [.int (nI h), .int (nI d)]) (rest := [.ref (a 7)]) hx hb hml hown hg (c_X2_cellOf l D cI cB aS h d) gm_117 sf_X2_cellOf ⟨Nat.le_of_ble_eq_true rfl, Nat.le_of_ble_eq_true rfl⟩ ⟨rfl, rfl⟩ ⟨Nat.zero_le _, Nat.zero_le _⟩ (RP.preS hK (fun k q h => by simp at h)) rfl hl.1 rfl (Nat.le_of_ble_eq_true rfl) dX2_numberOn_34 ?_
    have hP_1 : va_P D vwCl [(a 7, .inr (1, [.ref (a 14)])), (a 14, .inl (cI, 180, .inl pa))] _ := P_s2 hP XW_g7 XW_g14
    refine rdV (As := [.int (nI (d * 6 + h))]) (rest := []) hx hb hml hown hg (c_X1_at l D cI cB aS (a 7) (a 14) 180 pa (d * 6 + h) (by first | assumption | omega) (by first | assumption | omega)) gm_95 vf_X1_at ⟨Nat.le_of_ble_eq_true rfl, Nat.le_of_ble_eq_true rfl⟩ ⟨rfl, rfl⟩ ⟨Nat.zero_le _, Nat.zero_le _⟩ (RP.preV hK hP_1 (q0 := 0) (ci := 1) rfl rfl) rfl hl.1 rfl (Nat.le_of_ble_eq_true rfl) dX2_numberOn_37 ?_
    rw [show ((pa (d * 6 + h)) : Int32) = (pa (6 * d + h)) from by rw [Nat.mul_comm]]
    refine lv_istore_n (lv' := [(3, .int (pa (6 * d + h))), (0, .ref (a 0)), (1, .int (nI h)), (2, .int (nI d))]) hx hb dX2_numberOn_40 rfl hl (by decide) rfl (fun ls hl => ?_)
    refine lv_aload_n hx hb dX2_numberOn_41 rfl (lv_at hl 1 rfl) ?_
    refine va_get (D := D) (ci := 2) (v := .ref (a 3)) (C := RX2) (T := TX2) (N := 11) hx hb hg us_X2 hown hK.1 hP 0 XW_g0 rfl 4 (by decide) (hg _ gm_70) (fun _ h9 => h9) rfl dX2_numberOn_42 ?_
    refine lv_iload_n hx hb dX2_numberOn_45 rfl (lv_at hl 2 rfl) ?_
    have hP_2 : va_P D vwCl [(a 3, .inr (1, [.ref (a 4)])), (a 4, .inl (cI, 6, .inl kd))] _ := P_s2 hP XW_g3 XW_g4
    refine rdV (As := [.int (nI h)]) (rest := []) hx hb hml hown hg (c_X1_at l D cI cB aS (a 3) (a 4) 6 kd h (by first | assumption | omega) (by first | assumption | omega)) gm_95 vf_X1_at ⟨Nat.le_of_ble_eq_true rfl, Nat.le_of_ble_eq_true rfl⟩ ⟨rfl, rfl⟩ ⟨Nat.zero_le _, Nat.zero_le _⟩ (RP.preV hK hP_2 (q0 := 0) (ci := 1) rfl rfl) rfl hl.1 rfl (Nat.le_of_ble_eq_true rfl) dX2_numberOn_46 ?_
    refine lv_iload_n hx hb dX2_numberOn_49 rfl (lv_at hl 0 rfl) ?_
    refine rdS (As := [.int (kd h), .int (pa (6 * d + h))]) (rest := []) hx hb hml hown hg (c_X2_numberOf l D cI cB aS (kd h) (pa (6 * d + h))) gm_105 sf_X2_numberOf ⟨Nat.le_of_ble_eq_true rfl, Nat.le_of_ble_eq_true rfl⟩ ⟨rfl, rfl⟩ ⟨Nat.zero_le _, Nat.zero_le _⟩ (RP.preS hK (fun k q h => by simp at h)) rfl hl.1 rfl (Nat.le_of_ble_eq_true rfl) dX2_numberOn_50 ?_
    exact rr_i hx hb hr hlocks dX2_numberOn_53 (by unfold numOn ageOn; rw [if_neg c_8])
  · skip
    refine lv_aload_n hx hb dX2_numberOn_11 rfl (lv_at hl 0 rfl) ?_
    refine va_get (D := D) (ci := 2) (v := .ref (a 5)) (C := RX2) (T := TX2) (N := 11) hx hb hg us_X2 hown hK.1 hP 0 XW_g0 rfl 5 (by decide) (hg _ gm_71) (fun _ h9 => h9) rfl dX2_numberOn_12 ?_
    refine va_getN (D := D) (ci := 0) (v := .ref (a 6)) (C := RX0) (T := TX0) (N := 11) hx hb hg us_X0 hown hK.1 hP 5 XW_g5 rfl 4 (by decide) (nl_76 hK) (fun _ h9 => h9) rfl dX2_numberOn_15 ?_
    refine lv_iload_n hx hb dX2_numberOn_18 rfl (lv_at hl 1 rfl) ?_
    have hP_3 : va_P D vwCl [(a 6, .inr (1, [.ref (a 13)])), (a 13, .inl (cI, 6, .inl ag))] _ := P_s2 hP XW_g6 XW_g13
    refine rdV (As := [.int (nI h)]) (rest := []) hx hb hml hown hg (c_X1_at l D cI cB aS (a 6) (a 13) 6 ag h (by first | assumption | omega) (by first | assumption | omega)) gm_95 vf_X1_at ⟨Nat.le_of_ble_eq_true rfl, Nat.le_of_ble_eq_true rfl⟩ ⟨rfl, rfl⟩ ⟨Nat.zero_le _, Nat.zero_le _⟩ (RP.preV hK hP_3 (q0 := 0) (ci := 1) rfl rfl) rfl hl.1 rfl (Nat.le_of_ble_eq_true rfl) dX2_numberOn_19 ?_
    refine lv_goto (tgt := 40) hx hb dX2_numberOn_22 (by decide) ?_
    refine lv_istore_n (lv' := [(3, .int (ag h)), (0, .ref (a 0)), (1, .int (nI h)), (2, .int (nI d))]) hx hb dX2_numberOn_40 rfl hl (by decide) rfl (fun ls hl => ?_)
    refine lv_aload_n hx hb dX2_numberOn_41 rfl (lv_at hl 1 rfl) ?_
    refine va_get (D := D) (ci := 2) (v := .ref (a 3)) (C := RX2) (T := TX2) (N := 11) hx hb hg us_X2 hown hK.1 hP 0 XW_g0 rfl 4 (by decide) (hg _ gm_70) (fun _ h9 => h9) rfl dX2_numberOn_42 ?_
    refine lv_iload_n hx hb dX2_numberOn_45 rfl (lv_at hl 2 rfl) ?_
    have hP_4 : va_P D vwCl [(a 3, .inr (1, [.ref (a 4)])), (a 4, .inl (cI, 6, .inl kd))] _ := P_s2 hP XW_g3 XW_g4
    refine rdV (As := [.int (nI h)]) (rest := []) hx hb hml hown hg (c_X1_at l D cI cB aS (a 3) (a 4) 6 kd h (by first | assumption | omega) (by first | assumption | omega)) gm_95 vf_X1_at ⟨Nat.le_of_ble_eq_true rfl, Nat.le_of_ble_eq_true rfl⟩ ⟨rfl, rfl⟩ ⟨Nat.zero_le _, Nat.zero_le _⟩ (RP.preV hK hP_4 (q0 := 0) (ci := 1) rfl rfl) rfl hl.1 rfl (Nat.le_of_ble_eq_true rfl) dX2_numberOn_46 ?_
    refine lv_iload_n hx hb dX2_numberOn_49 rfl (lv_at hl 0 rfl) ?_
    refine rdS (As := [.int (kd h), .int (ag h)]) (rest := []) hx hb hml hown hg (c_X2_numberOf l D cI cB aS (kd h) (ag h)) gm_105 sf_X2_numberOf ⟨Nat.le_of_ble_eq_true rfl, Nat.le_of_ble_eq_true rfl⟩ ⟨rfl, rfl⟩ ⟨Nat.zero_le _, Nat.zero_le _⟩ (RP.preS hK (fun k q h => by simp at h)) rfl hl.1 rfl (Nat.le_of_ble_eq_true rfl) dX2_numberOn_50 ?_
    exact rr_i hx hb hr hlocks dX2_numberOn_53 (by unfold numOn ageOn; rw [if_pos c_8])
abbrev rm_X2_houseWith : Room := { frames := 2, cells := 0, slots := 0, locals := 44 }
theorem vf_X2_numberOn : vfacts RX2 yX2_numberOn cX2_numberOn 4 (some .int) 2 := ⟨⟨rfl, by decide +kernel, by decide +kernel, by decide +kernel⟩, gm_115, gm_361, gm_2, gm_116⟩
set_option maxRecDepth 100000 in
set_option maxHeartbeats 4000000 in
theorem c_X2_houseWith (l : Launch) (D : va_G) (cI cB : ClassId) (aS : Nat) (a : Nat → Nat) (pl n st : Nat) (ik : Int32) (td nd nh : Nat) (bs : Int32) (ktd knd knh : Nat) (kbs : Int32) (pg kd ag pa bo dm dn hh hn kag kpa kbo kdm kdn khh khn wb ps ty : Nat → Int32) (x : Int32) (d : Nat) (hn6 : n ≤ 6) (qd : d ≤ td) (qt : td ≤ 30) : Met l yX2_houseWith (mw yX2_houseWith cX2_houseWith 4 (some .int)) rm_X2_houseWith (RP D cI cB aS (XW cI a pl n st ik td nd nh bs ktd knd knh kbs pg kd ag pa bo dm dn hh hn kag kpa kbo kdm kdn khh khn wb ps ty) [.ref (a 0), .int x, .int (nI d)]) (vp_Si (fun r => r = (hwF n (fun h => numOn kd ag pa td h d) x))) 0 0 (fun _ => False) := by
  refine met_of (by decide) (Nat.le_of_ble_eq_true rfl) ?_
  intro p e s m below meth c ls hx hb hr hml hown hg hlocks hin hK hP hl
  have hown : s.vm.findClass RX2 = some m.cls := hown
  have hl : lv_has ls 4 [(0, .ref (a 0)), (1, .int x), (2, .int (nI d))] := hl
  refine lv_iconst (v := (nI 0)) hx hb dX2_houseWith_0 (by decide) ?_
  refine lv_istore_n (lv' := [(3, .int (nI 0)), (0, .ref (a 0)), (1, .int x), (2, .int (nI d))]) hx hb dX2_houseWith_1 rfl hl (by decide) rfl (fun ls hl => ?_)
  -- loop at 2
  refine loopR (nL := 4) (B := n) (I := fun i => ∀ k, k < i → hwP (fun h => numOn kd ag pa td h d) x k = false) (lv := fun i => [(0, .ref (a 0)), (1, .int x), (2, .int (nI d)), (3, .int (nI i))]) 0 (Nat.zero_le _) (fun k h => by omega) (lv_sub hl [1, 2, 3, 0] rfl) (fun i ls hj hI hl ih => ?_)
  have hl : lv_has ls 4 [(0, .ref (a 0)), (1, .int x), (2, .int (nI d)), (3, .int (nI i))] := hl
  have hI : ∀ k, k < i → hwP (fun h => numOn kd ag pa td h d) x k = false := hI
  have ih_2 := ih
  refine lv_iload_n hx hb dX2_houseWith_2 rfl (lv_at hl 3 rfl) ?_
  refine lv_aload_n hx hb dX2_houseWith_3 rfl (lv_at hl 0 rfl) ?_
  refine va_get (D := D) (ci := 2) (v := .int (nI n)) (C := RX2) (T := TX2) (N := 11) hx hb hg us_X2 hown hK.1 hP 0 XW_g0 rfl 2 (by decide) (hg _ gm_68) (fun _ h9 => h9) rfl dX2_houseWith_4 ?_
  refine nv_icmp_ge (tgt := 28) hx hb dX2_houseWith_7 (by omega) (by omega) (by decide) (fun c_7 => ?_) (fun c_7 => ?_)
  · skip
    refine lv_iconst (v := (-1)) hx hb dX2_houseWith_28 (by decide) ?_
    exact rr_i hx hb hr hlocks dX2_houseWith_29 ((ff_no (fun k h => hI k (by omega))).symm)
  · skip
    refine lv_aload_n hx hb dX2_houseWith_10 rfl (lv_at hl 0 rfl) ?_
    refine lv_iload_n hx hb dX2_houseWith_11 rfl (lv_at hl 3 rfl) ?_
    refine lv_iload_n hx hb dX2_houseWith_12 rfl (lv_at hl 2 rfl) ?_
    refine rdV (As := [.int (nI i), .int (nI d)]) (rest := []) hx hb hml hown hg (c_X2_numberOn l D cI cB aS _ pl n st ik td nd nh bs ktd knd knh kbs pg kd ag pa bo dm dn hh hn kag kpa kbo kdm kdn khh khn wb ps ty i d (by first | assumption | omega) (by first | assumption | omega) (by first | assumption | omega) (by first | assumption | omega)) gm_114 vf_X2_numberOn ⟨Nat.le_of_ble_eq_true rfl, Nat.le_of_ble_eq_true rfl⟩ ⟨rfl, rfl⟩ ⟨Nat.zero_le _, Nat.zero_le _⟩ (RP.preV hK hP (q0 := 0) (ci := 2) XW_g0 rfl) rfl hl.1 rfl (Nat.le_of_ble_eq_true rfl) dX2_houseWith_13 ?_
    refine lv_iload_n hx hb dX2_houseWith_16 rfl (lv_at hl 1 rfl) ?_
    refine lv_icmp_ne (tgt := 22) hx hb dX2_houseWith_17 (by decide) (fun c_17 => ?_) (fun c_17 => ?_)
    · skip
      refine lv_iinc (v := (nI (i + 1))) (lv' := [(3, .int (nI (i + 1))), (0, .ref (a 0)), (1, .int x), (2, .int (nI d))]) hx hb dX2_houseWith_22 hl (k := 3) rfl (nI_i1 _) (by decide) rfl (fun ls hl => ?_)
      refine lv_goto (tgt := 2) hx hb dX2_houseWith_25 (by decide) ?_
      exact ih_2 _ (by omega) ((fun k h => by rcases Nat.lt_succ_iff_lt_or_eq.mp h with h | h; exact hI k h; rw [h]; exact decide_eq_false c_17)) (lv_sub hl [1, 2, 3, 0] rfl)
    · skip
      refine lv_iload_n hx hb dX2_houseWith_20 rfl (lv_at hl 3 rfl) ?_
      exact rr_i hx hb hr hlocks dX2_houseWith_21 ((ff_at c_7 hI (decide_eq_true c_17)).symm)
end
section
abbrev rm_X2_unlikeNumbers : Room := { frames := 3, cells := 0, slots := 0, locals := 67 }
theorem vf_X2_numberNow : vfacts RX2 yX2_numberNow cX2_numberNow 2 (some .int) 1 := ⟨⟨rfl, by decide +kernel, by decide +kernel, by decide +kernel⟩, gm_100, gm_357, gm_2, gm_101⟩
theorem vf_X2_houseWith : vfacts RX2 yX2_houseWith cX2_houseWith 4 (some .int) 2 := ⟨⟨rfl, by decide +kernel, by decide +kernel, by decide +kernel⟩, gm_112, gm_360, gm_2, gm_113⟩
set_option maxRecDepth 100000 in
set_option maxHeartbeats 4000000 in
theorem c_X2_unlikeNumbers (l : Launch) (D : va_G) (cI cB : ClassId) (aS : Nat) (a : Nat → Nat) (pl n st : Nat) (ik : Int32) (td nd nh : Nat) (bs : Int32) (ktd knd knh : Nat) (kbs : Int32) (pg kd ag pa bo dm dn hh hn kag kpa kbo kdm kdn khh khn wb ps ty : Nat → Int32)  (hn6 : n ≤ 6) (qt : td ≤ 30) : Met l yX2_unlikeNumbers (mw yX2_unlikeNumbers cX2_unlikeNumbers 3 (some .int)) rm_X2_unlikeNumbers (RP D cI cB aS (XW cI a pl n st ik td nd nh bs ktd knd knh kbs pg kd ag pa bo dm dn hh hn kag kpa kbo kdm kdn khh khn wb ps ty) [.ref (a 0)]) (vp_Si (fun r => r = (nI (unF n (nmF kd ag))))) 0 0 (fun _ => False) := by
  refine met_of (by decide) (Nat.le_of_ble_eq_true rfl) ?_
  intro p e s m below meth c ls hx hb hr hml hown hg hlocks hin hK hP hl
  have hown : s.vm.findClass RX2 = some m.cls := hown
  have hl : lv_has ls 3 [(0, .ref (a 0))] := hl
  refine lv_iconst (v := (nI 0)) hx hb dX2_unlikeNumbers_0 (by decide) ?_
  refine lv_istore_n (lv' := [(1, .int (nI 0)), (0, .ref (a 0))]) hx hb dX2_unlikeNumbers_1 rfl hl (by decide) rfl (fun ls hl => ?_)
  refine lv_iconst (v := (nI 0)) hx hb dX2_unlikeNumbers_2 (by decide) ?_
  refine lv_istore_n (lv' := [(2, .int (nI 0)), (1, .int (nI 0)), (0, .ref (a 0))]) hx hb dX2_unlikeNumbers_3 rfl hl (by decide) rfl (fun ls hl => ?_)
  -- loop at 4
  refine loopR (nL := 3) (B := n) (I := fun i => True) (lv := fun i => [(0, .ref (a 0)), (1, .int (nI (cn (fun h => decide (hwF n (nmF kd ag) (nmF kd ag h) = nI h)) i))), (2, .int (nI i))]) 0 (Nat.zero_le _) (trivial) (by show lv_has ls 3 [(0, .ref (a 0)), (1, .int (nI (cn (fun h => decide (hwF n (nmF kd ag) (nmF kd ag h) = nI h)) 0))), (2, .int (nI 0))]; exact lv_sub hl [2, 1, 0] rfl) (fun i ls hj hI hl ih => ?_)
  have hl : lv_has ls 3 [(0, .ref (a 0)), (1, .int (nI (cn (fun h => decide (hwF n (nmF kd ag) (nmF kd ag h) = nI h)) i))), (2, .int (nI i))] := hl
  have ih_4 := ih
  refine lv_iload_n hx hb dX2_unlikeNumbers_4 rfl (lv_at hl 2 rfl) ?_
  refine lv_aload_n hx hb dX2_unlikeNumbers_5 rfl (lv_at hl 0 rfl) ?_
  refine va_get (D := D) (ci := 2) (v := .int (nI n)) (C := RX2) (T := TX2) (N := 11) hx hb hg us_X2 hown hK.1 hP 0 XW_g0 rfl 2 (by decide) (hg _ gm_68) (fun _ h9 => h9) rfl dX2_unlikeNumbers_6 ?_
  refine nv_icmp_ge (tgt := 41) hx hb dX2_unlikeNumbers_9 (by omega) (by omega) (by decide) (fun c_9 => ?_) (fun c_9 => ?_)
  · skip
    refine lv_iload_n hx hb dX2_unlikeNumbers_41 rfl (lv_at hl 1 rfl) ?_
    exact rr_i hx hb hr hlocks dX2_unlikeNumbers_42 (by rw [show i = n by omega]; rfl)
  · skip
    refine lv_aload_n hx hb dX2_unlikeNumbers_12 rfl (lv_at hl 0 rfl) ?_
    refine lv_aload_n hx hb dX2_unlikeNumbers_13 rfl (lv_at hl 0 rfl) ?_
    refine lv_iload_n hx hb dX2_unlikeNumbers_14 rfl (lv_at hl 2 rfl) ?_
    refine rdV (As := [.int (nI i)]) (rest := [.ref (a 0)]) hx hb hml hown hg (c_X2_numberNow l D cI cB aS _ pl n st ik td nd nh bs ktd knd knh kbs pg kd ag pa bo dm dn hh hn kag kpa kbo kdm kdn khh khn wb ps ty i (by first | assumption | omega) (by first | assumption | omega)) gm_99 vf_X2_numberNow ⟨Nat.le_of_ble_eq_true rfl, Nat.le_of_ble_eq_true rfl⟩ ⟨rfl, rfl⟩ ⟨Nat.zero_le _, Nat.zero_le _⟩ (RP.preV hK hP (q0 := 0) (ci := 2) XW_g0 rfl) rfl hl.1 rfl (Nat.le_of_ble_eq_true rfl) dX2_unlikeNumbers_15 ?_
    refine lv_aload_n hx hb dX2_unlikeNumbers_18 rfl (lv_at hl 0 rfl) ?_
    refine va_get (D := D) (ci := 2) (v := .ref (a 5)) (C := RX2) (T := TX2) (N := 11) hx hb hg us_X2 hown hK.1 hP 0 XW_g0 rfl 5 (by decide) (hg _ gm_71) (fun _ h9 => h9) rfl dX2_unlikeNumbers_19 ?_
    refine va_getN (D := D) (ci := 0) (v := .int (nI td)) (C := RX0) (T := TX0) (N := 11) hx hb hg us_X0 hown hK.1 hP 5 XW_g5 rfl 0 (by decide) (nl_112 hK) (fun _ h9 => h9) rfl dX2_unlikeNumbers_22 ?_
    refine rdV (As := [.int (nmF kd ag i), .int (nI td)]) (rest := []) hx hb hml hown hg (c_X2_houseWith l D cI cB aS _ pl n st ik td nd nh bs ktd knd knh kbs pg kd ag pa bo dm dn hh hn kag kpa kbo kdm kdn khh khn wb ps ty (nmF kd ag i) td (by first | assumption | omega) (by first | assumption | omega) (by first | assumption | omega)) gm_111 vf_X2_houseWith ⟨Nat.le_of_ble_eq_true rfl, Nat.le_of_ble_eq_true rfl⟩ ⟨rfl, rfl⟩ ⟨Nat.zero_le _, Nat.zero_le _⟩ (RP.preV hK hP (q0 := 0) (ci := 2) XW_g0 rfl) rfl hl.1 rfl (Nat.le_of_ble_eq_true rfl) dX2_unlikeNumbers_25 ?_
    rw [show ((hwF n (fun h => numOn kd ag pa td h td) (nmF kd ag i)) : Int32) = (hwF n (nmF kd ag) (nmF kd ag i)) from hwF_now]
    refine lv_iload_n hx hb dX2_unlikeNumbers_28 rfl (lv_at hl 2 rfl) ?_
    refine lv_icmp_ne (tgt := 35) hx hb dX2_unlikeNumbers_29 (by decide) (fun c_29 => ?_) (fun c_29 => ?_)
    · skip
      refine lv_iinc (v := (nI (i + 1))) (lv' := [(2, .int (nI (i + 1))), (0, .ref (a 0)), (1, .int (nI (cn (fun h => decide (hwF n (nmF kd ag) (nmF kd ag h) = nI h)) i)))]) hx hb dX2_unlikeNumbers_35 hl (k := 2) rfl (nI_i1 _) (by decide) rfl (fun ls hl => ?_)
      refine lv_goto (tgt := 4) hx hb dX2_unlikeNumbers_38 (by decide) ?_
      exact ih_4 _ (by omega) (trivial) (by show lv_has ls 3 [(0, .ref (a 0)), (1, .int (nI (cn (fun h => decide (hwF n (nmF kd ag) (nmF kd ag h) = nI h)) (i + 1)))), (2, .int (nI (i + 1)))]; rw [show (cn (fun h => decide (hwF n (nmF kd ag) (nmF kd ag h) = nI h)) (i + 1)) = cn (fun h => decide (hwF n (nmF kd ag) (nmF kd ag h) = nI h)) i from cn_f (decide_eq_false c_29)]; exact lv_sub hl [1, 2, 0] rfl)
    · skip
      refine lv_iinc (v := (nI (cn (fun h => decide (hwF n (nmF kd ag) (nmF kd ag h) = nI h)) i + 1))) (lv' := [(1, .int (nI (cn (fun h => decide (hwF n (nmF kd ag) (nmF kd ag h) = nI h)) i + 1))), (0, .ref (a 0)), (2, .int (nI i))]) hx hb dX2_unlikeNumbers_32 hl (k := 1) rfl (nI_i1 _) (by decide) rfl (fun ls hl => ?_)
      refine lv_iinc (v := (nI (i + 1))) (lv' := [(2, .int (nI (i + 1))), (1, .int (nI (cn (fun h => decide (hwF n (nmF kd ag) (nmF kd ag h) = nI h)) i + 1))), (0, .ref (a 0))]) hx hb dX2_unlikeNumbers_35 hl (k := 2) rfl (nI_i1 _) (by decide) rfl (fun ls hl => ?_)
      refine lv_goto (tgt := 4) hx hb dX2_unlikeNumbers_38 (by decide) ?_
      exact ih_4 _ (by omega) (trivial) (by show lv_has ls 3 [(0, .ref (a 0)), (1, .int (nI (cn (fun h => decide (hwF n (nmF kd ag) (nmF kd ag h) = nI h)) (i + 1)))), (2, .int (nI (i + 1)))]; rw [show (cn (fun h => decide (hwF n (nmF kd ag) (nmF kd ag h) = nI h)) (i + 1)) = cn (fun h => decide (hwF n (nmF kd ag) (nmF kd ag h) = nI h)) i + 1 from cn_t (decide_eq_true c_29)]; exact lv_sub hl [2, 1, 0] rfl)
abbrev rm_X2_owedBy : Room := { frames := 3, cells := 0, slots := 0, locals := 67 }
set_option maxRecDepth 100000 in
set_option maxHeartbeats 4000000 in
theorem c_X2_owedBy (l : Launch) (D : va_G) (cI cB : ClassId) (aS : Nat) (a : Nat → Nat) (pl n st : Nat) (ik : Int32) (td nd nh : Nat) (bs : Int32) (ktd knd knh : Nat) (kbs : Int32) (pg kd ag pa bo dm dn hh hn kag kpa kbo kdm kdn khh khn wb ps ty : Nat → Int32) (h : Nat) (qh : h < n) (hn6 : n ≤ 6) (qnd : nd ≤ 6) (qt : td ≤ 30) : Met l yX2_owedBy (mw yX2_owedBy cX2_owedBy 4 (some .int)) rm_X2_owedBy (RP D cI cB aS (XW cI a pl n st ik td nd nh bs ktd knd knh kbs pg kd ag pa bo dm dn hh hn kag kpa kbo kdm kdn khh khn wb ps ty) [.ref (a 0), .int (nI h)]) (vp_Si (fun r => r = (owF n (nmF kd ag) dm dn nd h))) 0 0 (fun _ => False) := by
  refine met_of (by decide) (Nat.le_of_ble_eq_true rfl) ?_
  intro p e s m below meth c ls hx hb hr hml hown hg hlocks hin hK hP hl
  have hown : s.vm.findClass RX2 = some m.cls := hown
  have hl : lv_has ls 4 [(0, .ref (a 0)), (1, .int (nI h))] := hl
  refine lv_iconst (v := (nI 0)) hx hb dX2_owedBy_0 (by decide) ?_
  refine lv_istore_n (lv' := [(2, .int (nI 0)), (0, .ref (a 0)), (1, .int (nI h))]) hx hb dX2_owedBy_1 rfl hl (by decide) rfl (fun ls hl => ?_)
  refine lv_iconst (v := (nI 0)) hx hb dX2_owedBy_2 (by decide) ?_
  refine lv_istore_n (lv' := [(3, .int (nI 0)), (2, .int (nI 0)), (0, .ref (a 0)), (1, .int (nI h))]) hx hb dX2_owedBy_3 rfl hl (by decide) rfl (fun ls hl => ?_)
  -- loop at 4
  refine loopR (nL := 4) (B := nd) (I := fun i => True) (lv := fun i => [(0, .ref (a 0)), (1, .int (nI h)), (2, .int (sm (fun k => if hwF n (nmF kd ag) (dn k) = nI h then dm k else nI 0) i)), (3, .int (nI i))]) 0 (Nat.zero_le _) (trivial) (by show lv_has ls 4 [(0, .ref (a 0)), (1, .int (nI h)), (2, .int (sm (fun k => if hwF n (nmF kd ag) (dn k) = nI h then dm k else nI 0) 0)), (3, .int (nI 0))]; exact lv_sub hl [2, 3, 1, 0] rfl) (fun i ls hj hI hl ih => ?_)
  have hl : lv_has ls 4 [(0, .ref (a 0)), (1, .int (nI h)), (2, .int (sm (fun k => if hwF n (nmF kd ag) (dn k) = nI h then dm k else nI 0) i)), (3, .int (nI i))] := hl
  have ih_4 := ih
  refine lv_iload_n hx hb dX2_owedBy_4 rfl (lv_at hl 3 rfl) ?_
  refine lv_aload_n hx hb dX2_owedBy_5 rfl (lv_at hl 0 rfl) ?_
  refine va_get (D := D) (ci := 2) (v := .ref (a 5)) (C := RX2) (T := TX2) (N := 11) hx hb hg us_X2 hown hK.1 hP 0 XW_g0 rfl 5 (by decide) (hg _ gm_71) (fun _ h9 => h9) rfl dX2_owedBy_6 ?_
  refine va_getN (D := D) (ci := 0) (v := .int (nI nd)) (C := RX0) (T := TX0) (N := 11) hx hb hg us_X0 hown hK.1 hP 5 XW_g5 rfl 2 (by decide) (nl_139 hK) (fun _ h9 => h9) rfl dX2_owedBy_9 ?_
  refine nv_icmp_ge (tgt := 61) hx hb dX2_owedBy_12 (by omega) (by omega) (by decide) (fun c_12 => ?_) (fun c_12 => ?_)
  · skip
    refine lv_iload_n hx hb dX2_owedBy_61 rfl (lv_at hl 2 rfl) ?_
    exact rr_i hx hb hr hlocks dX2_owedBy_62 (by unfold owF; rw [show i = nd by omega])
  · skip
    refine lv_aload_n hx hb dX2_owedBy_15 rfl (lv_at hl 0 rfl) ?_
    refine lv_aload_n hx hb dX2_owedBy_16 rfl (lv_at hl 0 rfl) ?_
    refine va_get (D := D) (ci := 2) (v := .ref (a 5)) (C := RX2) (T := TX2) (N := 11) hx hb hg us_X2 hown hK.1 hP 0 XW_g0 rfl 5 (by decide) (hg _ gm_71) (fun _ h9 => h9) rfl dX2_owedBy_17 ?_
    refine va_getN (D := D) (ci := 0) (v := .ref (a 10)) (C := RX0) (T := TX0) (N := 11) hx hb hg us_X0 hown hK.1 hP 5 XW_g5 rfl 8 (by decide) (nl_145 hK) (fun _ h9 => h9) rfl dX2_owedBy_20 ?_
    refine lv_iload_n hx hb dX2_owedBy_23 rfl (lv_at hl 3 rfl) ?_
    have hP_1 : va_P D vwCl [(a 10, .inr (1, [.ref (a 17)])), (a 17, .inl (cI, 6, .inl dn))] _ := P_s2 hP XW_g10 XW_g17
    refine rdV (As := [.int (nI i)]) (rest := [.ref (a 0)]) hx hb hml hown hg (c_X1_at l D cI cB aS (a 10) (a 17) 6 dn i (by first | assumption | omega) (by first | assumption | omega)) gm_95 vf_X1_at ⟨Nat.le_of_ble_eq_true rfl, Nat.le_of_ble_eq_true rfl⟩ ⟨rfl, rfl⟩ ⟨Nat.zero_le _, Nat.zero_le _⟩ (RP.preV hK hP_1 (q0 := 0) (ci := 1) rfl rfl) rfl hl.1 rfl (Nat.le_of_ble_eq_true rfl) dX2_owedBy_24 ?_
    refine lv_aload_n hx hb dX2_owedBy_27 rfl (lv_at hl 0 rfl) ?_
    refine va_get (D := D) (ci := 2) (v := .ref (a 5)) (C := RX2) (T := TX2) (N := 11) hx hb hg us_X2 hown hK.1 hP 0 XW_g0 rfl 5 (by decide) (hg _ gm_71) (fun _ h9 => h9) rfl dX2_owedBy_28 ?_
    refine va_getN (D := D) (ci := 0) (v := .int (nI td)) (C := RX0) (T := TX0) (N := 11) hx hb hg us_X0 hown hK.1 hP 5 XW_g5 rfl 0 (by decide) (nl_112 hK) (fun _ h9 => h9) rfl dX2_owedBy_31 ?_
    refine rdV (As := [.int (dn i), .int (nI td)]) (rest := []) hx hb hml hown hg (c_X2_houseWith l D cI cB aS _ pl n st ik td nd nh bs ktd knd knh kbs pg kd ag pa bo dm dn hh hn kag kpa kbo kdm kdn khh khn wb ps ty (dn i) td (by first | assumption | omega) (by first | assumption | omega) (by first | assumption | omega)) gm_111 vf_X2_houseWith ⟨Nat.le_of_ble_eq_true rfl, Nat.le_of_ble_eq_true rfl⟩ ⟨rfl, rfl⟩ ⟨Nat.zero_le _, Nat.zero_le _⟩ (RP.preV hK hP (q0 := 0) (ci := 2) XW_g0 rfl) rfl hl.1 rfl (Nat.le_of_ble_eq_true rfl) dX2_owedBy_34 ?_
    rw [show ((hwF n (fun h => numOn kd ag pa td h td) (dn i)) : Int32) = (hwF n (nmF kd ag) (dn i)) from hwF_now]
    refine lv_iload_n hx hb dX2_owedBy_37 rfl (lv_at hl 1 rfl) ?_
    refine lv_icmp_ne (tgt := 55) hx hb dX2_owedBy_38 (by decide) (fun c_38 => ?_) (fun c_38 => ?_)
    · skip
      refine lv_iinc (v := (nI (i + 1))) (lv' := [(3, .int (nI (i + 1))), (0, .ref (a 0)), (1, .int (nI h)), (2, .int (sm (fun k => if hwF n (nmF kd ag) (dn k) = nI h then dm k else nI 0) i))]) hx hb dX2_owedBy_55 hl (k := 3) rfl (nI_i1 _) (by decide) rfl (fun ls hl => ?_)
      refine lv_goto (tgt := 4) hx hb dX2_owedBy_58 (by decide) ?_
      exact ih_4 _ (by omega) (trivial) (by show lv_has ls 4 [(0, .ref (a 0)), (1, .int (nI h)), (2, .int (sm (fun k => if hwF n (nmF kd ag) (dn k) = nI h then dm k else nI 0) (i + 1))), (3, .int (nI (i + 1)))]; rw [show (sm (fun k => if hwF n (nmF kd ag) (dn k) = nI h then dm k else nI 0) (i + 1)) = sm (fun k => if hwF n (nmF kd ag) (dn k) = nI h then dm k else nI 0) i from (by simp only [sm]; rw [if_neg c_38]; exact Int32.add_zero _)]; exact lv_sub hl [1, 2, 3, 0] rfl)
    · skip
      refine lv_iload_n hx hb dX2_owedBy_41 rfl (lv_at hl 2 rfl) ?_
      refine lv_aload_n hx hb dX2_owedBy_42 rfl (lv_at hl 0 rfl) ?_
      refine va_get (D := D) (ci := 2) (v := .ref (a 5)) (C := RX2) (T := TX2) (N := 11) hx hb hg us_X2 hown hK.1 hP 0 XW_g0 rfl 5 (by decide) (hg _ gm_71) (fun _ h9 => h9) rfl dX2_owedBy_43 ?_
      refine va_getN (D := D) (ci := 0) (v := .ref (a 9)) (C := RX0) (T := TX0) (N := 11) hx hb hg us_X0 hown hK.1 hP 5 XW_g5 rfl 7 (by decide) (nl_142 hK) (fun _ h9 => h9) rfl dX2_owedBy_46 ?_
      refine lv_iload_n hx hb dX2_owedBy_49 rfl (lv_at hl 3 rfl) ?_
      have hP_2 : va_P D vwCl [(a 9, .inr (1, [.ref (a 16)])), (a 16, .inl (cI, 6, .inl dm))] _ := P_s2 hP XW_g9 XW_g16
      refine rdV (As := [.int (nI i)]) (rest := [.int (sm (fun k => if hwF n (nmF kd ag) (dn k) = nI h then dm k else nI 0) i)]) hx hb hml hown hg (c_X1_at l D cI cB aS (a 9) (a 16) 6 dm i (by first | assumption | omega) (by first | assumption | omega)) gm_95 vf_X1_at ⟨Nat.le_of_ble_eq_true rfl, Nat.le_of_ble_eq_true rfl⟩ ⟨rfl, rfl⟩ ⟨Nat.zero_le _, Nat.zero_le _⟩ (RP.preV hK hP_2 (q0 := 0) (ci := 1) rfl rfl) rfl hl.1 rfl (Nat.le_of_ble_eq_true rfl) dX2_owedBy_50 ?_
      refine lv_iadd hx hb dX2_owedBy_53 ?_
      refine lv_istore_n (lv' := [(2, .int ((sm (fun k => if hwF n (nmF kd ag) (dn k) = nI h then dm k else nI 0) i) + (dm i))), (0, .ref (a 0)), (1, .int (nI h)), (3, .int (nI i))]) hx hb dX2_owedBy_54 rfl hl (by decide) rfl (fun ls hl => ?_)
      refine lv_iinc (v := (nI (i + 1))) (lv' := [(3, .int (nI (i + 1))), (2, .int ((sm (fun k => if hwF n (nmF kd ag) (dn k) = nI h then dm k else nI 0) i) + (dm i))), (0, .ref (a 0)), (1, .int (nI h))]) hx hb dX2_owedBy_55 hl (k := 3) rfl (nI_i1 _) (by decide) rfl (fun ls hl => ?_)
      refine lv_goto (tgt := 4) hx hb dX2_owedBy_58 (by decide) ?_
      exact ih_4 _ (by omega) (trivial) (by show lv_has ls 4 [(0, .ref (a 0)), (1, .int (nI h)), (2, .int (sm (fun k => if hwF n (nmF kd ag) (dn k) = nI h then dm k else nI 0) (i + 1))), (3, .int (nI (i + 1)))]; rw [show (sm (fun k => if hwF n (nmF kd ag) (dn k) = nI h then dm k else nI 0) (i + 1)) = (sm (fun k => if hwF n (nmF kd ag) (dn k) = nI h then dm k else nI 0) i) + (dm i) from (by simp only [sm]; rw [if_pos c_38])]; exact lv_sub hl [2, 3, 1, 0] rfl)
abbrev rm_X2_owedByAll : Room := { frames := 4, cells := 0, slots := 0, locals := 90 }
theorem vf_X2_owedBy : vfacts RX2 yX2_owedBy cX2_owedBy 4 (some .int) 1 := ⟨⟨rfl, by decide +kernel, by decide +kernel, by decide +kernel⟩, gm_109, gm_359, gm_2, gm_110⟩
set_option maxRecDepth 100000 in
set_option maxHeartbeats 4000000 in
theorem c_X2_owedByAll (l : Launch) (D : va_G) (cI cB : ClassId) (aS : Nat) (a : Nat → Nat) (pl n st : Nat) (ik : Int32) (td nd nh : Nat) (bs : Int32) (ktd knd knh : Nat) (kbs : Int32) (pg kd ag pa bo dm dn hh hn kag kpa kbo kdm kdn khh khn wb ps ty : Nat → Int32)  (hn6 : n ≤ 6) (qnd : nd ≤ 6) (qt : td ≤ 30) : Met l yX2_owedByAll (mw yX2_owedByAll cX2_owedByAll 3 (some .int)) rm_X2_owedByAll (RP D cI cB aS (XW cI a pl n st ik td nd nh bs ktd knd knh kbs pg kd ag pa bo dm dn hh hn kag kpa kbo kdm kdn khh khn wb ps ty) [.ref (a 0)]) (vp_Si (fun r => r = (owA n (nmF kd ag) dm dn nd))) 0 0 (fun _ => False) := by
  refine met_of (by decide) (Nat.le_of_ble_eq_true rfl) ?_
  intro p e s m below meth c ls hx hb hr hml hown hg hlocks hin hK hP hl
  have hown : s.vm.findClass RX2 = some m.cls := hown
  have hl : lv_has ls 3 [(0, .ref (a 0))] := hl
  refine lv_iconst (v := (nI 0)) hx hb dX2_owedByAll_0 (by decide) ?_
  refine lv_istore_n (lv' := [(1, .int (nI 0)), (0, .ref (a 0))]) hx hb dX2_owedByAll_1 rfl hl (by decide) rfl (fun ls hl => ?_)
  refine lv_iconst (v := (nI 0)) hx hb dX2_owedByAll_2 (by decide) ?_
  refine lv_istore_n (lv' := [(2, .int (nI 0)), (1, .int (nI 0)), (0, .ref (a 0))]) hx hb dX2_owedByAll_3 rfl hl (by decide) rfl (fun ls hl => ?_)
  -- loop at 4
  refine loopR (nL := 3) (B := n) (I := fun i => True) (lv := fun i => [(0, .ref (a 0)), (1, .int (sm (fun h => owF n (nmF kd ag) dm dn nd h) i)), (2, .int (nI i))]) 0 (Nat.zero_le _) (trivial) (by show lv_has ls 3 [(0, .ref (a 0)), (1, .int (sm (fun h => owF n (nmF kd ag) dm dn nd h) 0)), (2, .int (nI 0))]; exact lv_sub hl [2, 1, 0] rfl) (fun i ls hj hI hl ih => ?_)
  have hl : lv_has ls 3 [(0, .ref (a 0)), (1, .int (sm (fun h => owF n (nmF kd ag) dm dn nd h) i)), (2, .int (nI i))] := hl
  have ih_4 := ih
  refine lv_iload_n hx hb dX2_owedByAll_4 rfl (lv_at hl 2 rfl) ?_
  refine lv_aload_n hx hb dX2_owedByAll_5 rfl (lv_at hl 0 rfl) ?_
  refine va_get (D := D) (ci := 2) (v := .int (nI n)) (C := RX2) (T := TX2) (N := 11) hx hb hg us_X2 hown hK.1 hP 0 XW_g0 rfl 2 (by decide) (hg _ gm_68) (fun _ h9 => h9) rfl dX2_owedByAll_6 ?_
  refine nv_icmp_ge (tgt := 26) hx hb dX2_owedByAll_9 (by omega) (by omega) (by decide) (fun c_9 => ?_) (fun c_9 => ?_)
  · skip
    refine lv_iload_n hx hb dX2_owedByAll_26 rfl (lv_at hl 1 rfl) ?_
    exact rr_i hx hb hr hlocks dX2_owedByAll_27 (by rw [show i = n by omega]; rfl)
  · skip
    refine lv_iload_n hx hb dX2_owedByAll_12 rfl (lv_at hl 1 rfl) ?_
    refine lv_aload_n hx hb dX2_owedByAll_13 rfl (lv_at hl 0 rfl) ?_
    refine lv_iload_n hx hb dX2_owedByAll_14 rfl (lv_at hl 2 rfl) ?_
    refine rdV (As := [.int (nI i)]) (rest := [.int (sm (fun h => owF n (nmF kd ag) dm dn nd h) i)]) hx hb hml hown hg (c_X2_owedBy l D cI cB aS _ pl n st ik td nd nh bs ktd knd knh kbs pg kd ag pa bo dm dn hh hn kag kpa kbo kdm kdn khh khn wb ps ty i (by first | assumption | omega) (by first | assumption | omega) (by first | assumption | omega) (by first | assumption | omega)) gm_108 vf_X2_owedBy ⟨Nat.le_of_ble_eq_true rfl, Nat.le_of_ble_eq_true rfl⟩ ⟨rfl, rfl⟩ ⟨Nat.zero_le _, Nat.zero_le _⟩ (RP.preV hK hP (q0 := 0) (ci := 2) XW_g0 rfl) rfl hl.1 rfl (Nat.le_of_ble_eq_true rfl) dX2_owedByAll_15 ?_
    refine lv_iadd hx hb dX2_owedByAll_18 ?_
    refine lv_istore_n (lv' := [(1, .int ((sm (fun h => owF n (nmF kd ag) dm dn nd h) i) + (owF n (nmF kd ag) dm dn nd i))), (0, .ref (a 0)), (2, .int (nI i))]) hx hb dX2_owedByAll_19 rfl hl (by decide) rfl (fun ls hl => ?_)
    refine lv_iinc (v := (nI (i + 1))) (lv' := [(2, .int (nI (i + 1))), (1, .int ((sm (fun h => owF n (nmF kd ag) dm dn nd h) i) + (owF n (nmF kd ag) dm dn nd i))), (0, .ref (a 0))]) hx hb dX2_owedByAll_20 hl (k := 2) rfl (nI_i1 _) (by decide) rfl (fun ls hl => ?_)
    refine lv_goto (tgt := 4) hx hb dX2_owedByAll_23 (by decide) ?_
    exact ih_4 _ (by omega) (trivial) (by show lv_has ls 3 [(0, .ref (a 0)), (1, .int (sm (fun h => owF n (nmF kd ag) dm dn nd h) (i + 1))), (2, .int (nI (i + 1)))]; rw [show (sm (fun h => owF n (nmF kd ag) dm dn nd h) (i + 1)) = (sm (fun h => owF n (nmF kd ag) dm dn nd h) i) + (owF n (nmF kd ag) dm dn nd i) from rfl]; exact lv_sub hl [2, 1, 0] rfl)
abbrev rm_X2_drawnHouse : Room := { frames := 0, cells := 0, slots := 0, locals := 0 }
set_option maxRecDepth 100000 in
set_option maxHeartbeats 4000000 in
theorem c_X2_drawnHouse (l : Launch) (D : va_G) (cI cB : ClassId) (aS : Nat) (a : Nat → Nat) (pl n st : Nat) (ik : Int32) (td nd nh : Nat) (bs : Int32) (ktd knd knh : Nat) (kbs : Int32) (pg kd ag pa bo dm dn hh hn kag kpa kbo kdm kdn khh khn wb ps ty : Nat → Int32) (z : Nat) (hn6 : n ≤ 6) (qn : 0 < n) (qz : z < 2147483648) : Met l yX2_drawnHouse (mw yX2_drawnHouse cX2_drawnHouse 2 (some .int)) rm_X2_drawnHouse (RP D cI cB aS (XW cI a pl n st ik td nd nh bs ktd knd knh kbs pg kd ag pa bo dm dn hh hn kag kpa kbo kdm kdn khh khn wb ps ty) [.ref (a 0), .int (nI z)]) (vp_Si (fun r => r = (nI (drF n z)))) 0 0 (fun _ => False) := by
  refine met_of (by decide) (Nat.le_of_ble_eq_true rfl) ?_
  intro p e s m below meth c ls hx hb hr hml hown hg hlocks hin hK hP hl
  have hown : s.vm.findClass RX2 = some m.cls := hown
  have hl : lv_has ls 2 [(0, .ref (a 0)), (1, .int (nI z))] := hl
  refine lv_aload_n hx hb dX2_drawnHouse_0 rfl (lv_at hl 0 rfl) ?_
  refine va_get (D := D) (ci := 2) (v := .int (nI n)) (C := RX2) (T := TX2) (N := 11) hx hb hg us_X2 hown hK.1 hP 0 XW_g0 rfl 2 (by decide) (hg _ gm_68) (fun _ h9 => h9) rfl dX2_drawnHouse_1 ?_
  refine lv_iconst (v := (nI 1)) hx hb dX2_drawnHouse_4 (by decide) ?_
  refine nv_icmp_ge (tgt := 12) hx hb dX2_drawnHouse_5 (by omega) (by omega) (by decide) (fun c_5 => ?_) (fun c_5 => ?_)
  · skip
    refine lv_iload_n hx hb dX2_drawnHouse_12 rfl (lv_at hl 1 rfl) ?_
    refine lv_ldcw (v := (nI 65536)) hx hb hown (hg _ gm_213) dX2_drawnHouse_13 ?_
    refine nv_idiv hx hb dX2_drawnHouse_16 (by omega) (by omega) (by omega) ?_
    refine lv_aload_n hx hb dX2_drawnHouse_17 rfl (lv_at hl 0 rfl) ?_
    refine va_get (D := D) (ci := 2) (v := .int (nI n)) (C := RX2) (T := TX2) (N := 11) hx hb hg us_X2 hown hK.1 hP 0 XW_g0 rfl 2 (by decide) (hg _ gm_68) (fun _ h9 => h9) rfl dX2_drawnHouse_18 ?_
    refine nv_irem hx hb dX2_drawnHouse_21 (by omega) (by omega) (by omega) ?_
    exact rr_i hx hb hr hlocks dX2_drawnHouse_22 rfl
  · exact absurd c_5 (by omega)
abbrev rm_X2_nextSeed : Room := { frames := 0, cells := 0, slots := 0, locals := 0 }
set_option maxRecDepth 100000 in
set_option maxHeartbeats 4000000 in
theorem c_X2_nextSeed (l : Launch) (D : va_G) (cI cB : ClassId) (aS : Nat) (z : Nat) (qz : z < 2147483648) : Met l yX2_nextSeed (mw yX2_nextSeed cX2_nextSeed 1 (some .int)) rm_X2_nextSeed (RP D cI cB aS ([]) [.int (nI z)]) (vp_Si (fun r => r = (nI (sdF z)))) 0 0 (fun _ => False) := by
  refine met_of (by decide) (Nat.le_of_ble_eq_true rfl) ?_
  intro p e s m below meth c ls hx hb hr hml hown hg hlocks hin hK hP hl
  have hown : s.vm.findClass RX2 = some m.cls := hown
  have hl : lv_has ls 1 [(0, .int (nI z))] := hl
  refine lv_ldc2 hx hb hown (hg _ gm_207) dX2_nextSeed_0 ?_
  refine lv_iload_n hx hb dX2_nextSeed_3 rfl (lv_at hl 0 rfl) ?_
  refine lv_i2l (v := (nI z).toInt64) hx hb dX2_nextSeed_4 rfl ?_
  refine lv_lmul hx hb dX2_nextSeed_5 ?_
  refine lv_ldc2 hx hb hown (hg _ gm_208) dX2_nextSeed_6 ?_
  refine lv_ladd hx hb dX2_nextSeed_9 ?_
  refine lv_ldc2 hx hb hown (hg _ gm_209) dX2_nextSeed_10 ?_
  refine lv_lrem hx hb dX2_nextSeed_13 (by decide) ?_
  refine lv_l2i (v := ((((1103515245 : Int64) * ((nI z).toInt64)) + (12345 : Int64)) - (((1103515245 : Int64) * ((nI z).toInt64)) + (12345 : Int64)) / (2147483648 : Int64) * (2147483648 : Int64)).toInt32) hx hb dX2_nextSeed_14 rfl ?_
  rw [show ((((((1103515245 : Int64) * ((nI z).toInt64)) + (12345 : Int64)) - (((1103515245 : Int64) * ((nI z).toInt64)) + (12345 : Int64)) / (2147483648 : Int64) * (2147483648 : Int64)).toInt32) : Int32) = (nI (sdF z)) from sd_x z qz]
  exact rr_i hx hb hr hlocks dX2_nextSeed_15 rfl
abbrev rm_X2_walk : Room := { frames := 5, cells := 0, slots := 0, locals := 117 }
theorem vf_X2_lengthOfWalk : vfacts RX2 yX2_lengthOfWalk cX2_lengthOfWalk 6 (some .int) 1 := ⟨⟨rfl, by decide +kernel, by decide +kernel, by decide +kernel⟩, gm_176, gm_367, gm_2, gm_177⟩
set_option maxRecDepth 100000 in
set_option maxHeartbeats 4000000 in
theorem c_X2_walk (l : Launch) (D : va_G) (cI cB : ClassId) (aS : Nat) (a : Nat → Nat) (pl n st : Nat) (ik : Int32) (td nd nh : Nat) (bs : Int32) (ktd knd knh : Nat) (kbs : Int32) (pg kd ag pa bo dm dn hh hn kag kpa kbo kdm kdn khh khn wb ps ty : Nat → Int32)  (hn6 : n ≤ 6) : Met l yX2_walk (mw yX2_walk cX2_walk 1 (some .int)) rm_X2_walk (RP D cI cB aS (XW cI a pl n st ik td nd nh bs ktd knd knh kbs pg kd ag pa bo dm dn hh hn kag kpa kbo kdm kdn khh khn wb ps ty) [.ref (a 0)]) (vp_Si (fun r => r = (if n = 0 then -103 else nI (wkF n (nmF kd ag) n)))) 0 0 (fun _ => False) := by
  refine met_of (by decide) (Nat.le_of_ble_eq_true rfl) ?_
  intro p e s m below meth c ls hx hb hr hml hown hg hlocks hin hK hP hl
  have hown : s.vm.findClass RX2 = some m.cls := hown
  have hl : lv_has ls 1 [(0, .ref (a 0))] := hl
  refine lv_aload_n hx hb dX2_walk_0 rfl (lv_at hl 0 rfl) ?_
  refine va_get (D := D) (ci := 2) (v := .int (nI n)) (C := RX2) (T := TX2) (N := 11) hx hb hg us_X2 hown hK.1 hP 0 XW_g0 rfl 2 (by decide) (hg _ gm_68) (fun _ h9 => h9) rfl dX2_walk_1 ?_
  refine nv_if_ne (tgt := 10) hx hb dX2_walk_4 (by omega) (by decide) (fun c_4 => ?_) (fun c_4 => ?_)
  · skip
    refine lv_aload_n hx hb dX2_walk_10 rfl (lv_at hl 0 rfl) ?_
    refine lv_aload_n hx hb dX2_walk_11 rfl (lv_at hl 0 rfl) ?_
    refine va_get (D := D) (ci := 2) (v := .ref (a 5)) (C := RX2) (T := TX2) (N := 11) hx hb hg us_X2 hown hK.1 hP 0 XW_g0 rfl 5 (by decide) (hg _ gm_71) (fun _ h9 => h9) rfl dX2_walk_12 ?_
    refine va_getN (D := D) (ci := 0) (v := .ref (a 6)) (C := RX0) (T := TX0) (N := 11) hx hb hg us_X0 hown hK.1 hP 5 XW_g5 rfl 4 (by decide) (nl_76 hK) (fun _ h9 => h9) rfl dX2_walk_15 ?_
    have hP_1 : va_P D vwCl [(a 0, .inr (2, [.ref (a 1), .int (nI pl), .int (nI n), .int (nI st), .ref (a 3), .ref (a 5), .ref (a 20), .int ik, .ref (a 35), .ref (a 37), .ref (a 39)])), (a 3, .inr (1, [.ref (a 4)])), (a 4, .inl (cI, 6, .inl kd)), (a 6, .inr (1, [.ref (a 13)])), (a 13, .inl (cI, 6, .inl ag))] _ := P_s5 hP XW_g0 XW_g3 XW_g4 XW_g6 XW_g13
    refine rdV (As := [.ref (a 6)]) (rest := []) hx hb hml hown hg (c_X2_lengthOfWalk l D cI cB aS (a 0) (a 3) (a 4) (a 6) (a 13) n ([.ref (a 1), .int (nI pl), .int (nI n), .int (nI st), .ref (a 3), .ref (a 5), .ref (a 20), .int ik, .ref (a 35), .ref (a 37), .ref (a 39)]) kd ag rfl rfl (by first | assumption | omega)) gm_175 vf_X2_lengthOfWalk ⟨Nat.le_of_ble_eq_true rfl, Nat.le_of_ble_eq_true rfl⟩ ⟨rfl, rfl⟩ ⟨Nat.zero_le _, Nat.zero_le _⟩ (RP.preV hK hP_1 (q0 := 0) (ci := 2) rfl rfl) rfl hl.1 rfl (Nat.le_of_ble_eq_true rfl) dX2_walk_18 ?_
    exact rr_i hx hb hr hlocks dX2_walk_21 ((if_neg c_4).symm)
  · skip
    refine lv_bipush (v := (-103)) hx hb dX2_walk_7 (by decide) ?_
    exact rr_i hx hb hr hlocks dX2_walk_9 ((if_pos c_4).symm)
end
section
abbrev rm_X2_about : Room := { frames := 4, cells := 0, slots := 0, locals := 90 }
set_option maxRecDepth 100000 in
set_option maxHeartbeats 4000000 in
theorem c_X2_about (l : Launch) (D : va_G) (cI cB : ClassId) (aS : Nat) (a : Nat → Nat) (pl n st : Nat) (ik : Int32) (td nd nh : Nat) (bs : Int32) (ktd knd knh : Nat) (kbs : Int32) (pg kd ag pa bo dm dn hh hn kag kpa kbo kdm kdn khh khn wb ps ty : Nat → Int32) (x w : Int32) (hn6 : n ≤ 6) (qnd : nd ≤ 6) (qt : td ≤ 30) : Met l yX2_about (mw yX2_about cX2_about 3 (some .int)) rm_X2_about (RP D cI cB aS (XW cI a pl n st ik td nd nh bs ktd knd knh kbs pg kd ag pa bo dm dn hh hn kag kpa kbo kdm kdn khh khn wb ps ty) [.ref (a 0), .int x, .int w]) (vp_Si (fun r => r = (abtF n kd ag bo dm dn nd x w))) 0 0 (fun _ => False) := by
  refine met_of (by decide) (Nat.le_of_ble_eq_true rfl) ?_
  intro p e s m below meth c ls hx hb hr hml hown hg hlocks hin hK hP hl
  have hown : s.vm.findClass RX2 = some m.cls := hown
  have hl : lv_has ls 3 [(0, .ref (a 0)), (1, .int x), (2, .int w)] := hl
  refine lv_aload_n hx hb dX2_about_0 rfl (lv_at hl 0 rfl) ?_
  refine lv_iload_n hx hb dX2_about_1 rfl (lv_at hl 1 rfl) ?_
  have hP_1 : va_P D vwCl [(a 0, .inr (2, [.ref (a 1), .int (nI pl), .int (nI n), .int (nI st), .ref (a 3), .ref (a 5), .ref (a 20), .int ik, .ref (a 35), .ref (a 37), .ref (a 39)]))] _ := P_s1 hP XW_g0
  refine rdV (As := [.int x]) (rest := []) hx hb hml hown hg (c_X2_isHouse l D cI cB aS (a 0) n ([.ref (a 1), .int (nI pl), .int (nI n), .int (nI st), .ref (a 3), .ref (a 5), .ref (a 20), .int ik, .ref (a 35), .ref (a 37), .ref (a 39)]) x rfl (by first | assumption | omega)) gm_92 vf_X2_isHouse ⟨Nat.le_of_ble_eq_true rfl, Nat.le_of_ble_eq_true rfl⟩ ⟨rfl, rfl⟩ ⟨Nat.zero_le _, Nat.zero_le _⟩ (RP.preV hK hP_1 (q0 := 0) (ci := 2) rfl rfl) rfl hl.1 rfl (Nat.le_of_ble_eq_true rfl) dX2_about_2 ?_
  refine bv_if_ne (tgt := 11) hx hb dX2_about_5 (by decide) (fun c_5 => ?_) (fun c_5 => ?_)
  · skip
    obtain ⟨j, qj, ex⟩ := hIn_of c_5 (by omega)
    subst ex
    refine lv_iload_n hx hb dX2_about_11 rfl (lv_at hl 2 rfl) ?_
    refine lv_if_lt (tgt := 20) hx hb dX2_about_12 (by decide) (fun c_12 => ?_) (fun c_12 => ?_)
    · skip
      refine lv_bipush (v := (-102)) hx hb dX2_about_20 (by decide) ?_
      exact rr_i hx hb hr hlocks dX2_about_22 ((abt_2 qj hn6 (fun q => Int32.not_lt.mpr q.1 c_12)).symm)
    · skip
      refine lv_iload_n hx hb dX2_about_15 rfl (lv_at hl 2 rfl) ?_
      refine lv_iconst (v := (nI 5)) hx hb dX2_about_16 (by decide) ?_
      refine lv_icmp_le (tgt := 23) hx hb dX2_about_17 (by decide) (fun c_17 => ?_) (fun c_17 => ?_)
      · skip
        have cw : x_in w 5 := ⟨Int32.not_lt.mp c_12, c_17⟩
        obtain ⟨k, qk, ek⟩ := x_in_of cw (by omega)
        subst ek
        refine lv_iload_n hx hb dX2_about_23 rfl (lv_at hl 2 rfl) ?_
        rcases (show k = 0 ∨ k = 1 ∨ k = 2 ∨ k = 3 ∨ k = 4 ∨ k = 5 by omega) with rfl | rfl | rfl | rfl | rfl | rfl
        · refine lv_tableIn (off := 36) (tgt := 60) hx hb dX2_about_24 (by decide) (by decide) rfl (by decide) ?_
          refine lv_aload_n hx hb dX2_about_60 rfl (lv_at hl 0 rfl) ?_
          refine va_get (D := D) (ci := 2) (v := .ref (a 3)) (C := RX2) (T := TX2) (N := 11) hx hb hg us_X2 hown hK.1 hP 0 XW_g0 rfl 4 (by decide) (hg _ gm_70) (fun _ h9 => h9) rfl dX2_about_61 ?_
          refine lv_iload_n hx hb dX2_about_64 rfl (lv_at hl 1 rfl) ?_
          have hP_2 : va_P D vwCl [(a 3, .inr (1, [.ref (a 4)])), (a 4, .inl (cI, 6, .inl kd))] _ := P_s2 hP XW_g3 XW_g4
          refine rdV (As := [.int (nI j)]) (rest := []) hx hb hml hown hg (c_X1_at l D cI cB aS (a 3) (a 4) 6 kd j (by first | assumption | omega) (by first | assumption | omega)) gm_95 vf_X1_at ⟨Nat.le_of_ble_eq_true rfl, Nat.le_of_ble_eq_true rfl⟩ ⟨rfl, rfl⟩ ⟨Nat.zero_le _, Nat.zero_le _⟩ (RP.preV hK hP_2 (q0 := 0) (ci := 1) rfl rfl) rfl hl.1 rfl (Nat.le_of_ble_eq_true rfl) dX2_about_65 ?_
          exact rr_i hx hb hr hlocks dX2_about_68 ((abt_ok (w := 0) qj hn6 (by decide)).symm)
        · refine lv_tableIn (off := 45) (tgt := 69) hx hb dX2_about_24 (by decide) (by decide) rfl (by decide) ?_
          refine lv_aload_n hx hb dX2_about_69 rfl (lv_at hl 0 rfl) ?_
          refine va_get (D := D) (ci := 2) (v := .ref (a 5)) (C := RX2) (T := TX2) (N := 11) hx hb hg us_X2 hown hK.1 hP 0 XW_g0 rfl 5 (by decide) (hg _ gm_71) (fun _ h9 => h9) rfl dX2_about_70 ?_
          refine va_getN (D := D) (ci := 0) (v := .ref (a 6)) (C := RX0) (T := TX0) (N := 11) hx hb hg us_X0 hown hK.1 hP 5 XW_g5 rfl 4 (by decide) (nl_76 hK) (fun _ h9 => h9) rfl dX2_about_73 ?_
          refine lv_iload_n hx hb dX2_about_76 rfl (lv_at hl 1 rfl) ?_
          have hP_3 : va_P D vwCl [(a 6, .inr (1, [.ref (a 13)])), (a 13, .inl (cI, 6, .inl ag))] _ := P_s2 hP XW_g6 XW_g13
          refine rdV (As := [.int (nI j)]) (rest := []) hx hb hml hown hg (c_X1_at l D cI cB aS (a 6) (a 13) 6 ag j (by first | assumption | omega) (by first | assumption | omega)) gm_95 vf_X1_at ⟨Nat.le_of_ble_eq_true rfl, Nat.le_of_ble_eq_true rfl⟩ ⟨rfl, rfl⟩ ⟨Nat.zero_le _, Nat.zero_le _⟩ (RP.preV hK hP_3 (q0 := 0) (ci := 1) rfl rfl) rfl hl.1 rfl (Nat.le_of_ble_eq_true rfl) dX2_about_77 ?_
          exact rr_i hx hb hr hlocks dX2_about_80 ((abt_ok (w := 1) qj hn6 (by decide)).symm)
        · refine lv_tableIn (off := 57) (tgt := 81) hx hb dX2_about_24 (by decide) (by decide) rfl (by decide) ?_
          refine lv_aload_n hx hb dX2_about_81 rfl (lv_at hl 0 rfl) ?_
          refine lv_iload_n hx hb dX2_about_82 rfl (lv_at hl 1 rfl) ?_
          refine rdV (As := [.int (nI j)]) (rest := []) hx hb hml hown hg (c_X2_numberNow l D cI cB aS _ pl n st ik td nd nh bs ktd knd knh kbs pg kd ag pa bo dm dn hh hn kag kpa kbo kdm kdn khh khn wb ps ty j (by first | assumption | omega) (by first | assumption | omega)) gm_99 vf_X2_numberNow ⟨Nat.le_of_ble_eq_true rfl, Nat.le_of_ble_eq_true rfl⟩ ⟨rfl, rfl⟩ ⟨Nat.zero_le _, Nat.zero_le _⟩ (RP.preV hK hP (q0 := 0) (ci := 2) XW_g0 rfl) rfl hl.1 rfl (Nat.le_of_ble_eq_true rfl) dX2_about_83 ?_
          exact rr_i hx hb hr hlocks dX2_about_86 ((abt_ok (w := 2) qj hn6 (by decide)).symm)
        · refine lv_tableIn (off := 63) (tgt := 87) hx hb dX2_about_24 (by decide) (by decide) rfl (by decide) ?_
          refine lv_aload_n hx hb dX2_about_87 rfl (lv_at hl 0 rfl) ?_
          refine va_get (D := D) (ci := 2) (v := .ref (a 5)) (C := RX2) (T := TX2) (N := 11) hx hb hg us_X2 hown hK.1 hP 0 XW_g0 rfl 5 (by decide) (hg _ gm_71) (fun _ h9 => h9) rfl dX2_about_88 ?_
          refine va_getN (D := D) (ci := 0) (v := .ref (a 8)) (C := RX0) (T := TX0) (N := 11) hx hb hg us_X0 hown hK.1 hP 5 XW_g5 rfl 6 (by decide) (nl_86 hK) (fun _ h9 => h9) rfl dX2_about_91 ?_
          refine lv_iload_n hx hb dX2_about_94 rfl (lv_at hl 1 rfl) ?_
          have hP_4 : va_P D vwCl [(a 8, .inr (1, [.ref (a 15)])), (a 15, .inl (cI, 6, .inl bo))] _ := P_s2 hP XW_g8 XW_g15
          refine rdV (As := [.int (nI j)]) (rest := []) hx hb hml hown hg (c_X1_at l D cI cB aS (a 8) (a 15) 6 bo j (by first | assumption | omega) (by first | assumption | omega)) gm_95 vf_X1_at ⟨Nat.le_of_ble_eq_true rfl, Nat.le_of_ble_eq_true rfl⟩ ⟨rfl, rfl⟩ ⟨Nat.zero_le _, Nat.zero_le _⟩ (RP.preV hK hP_4 (q0 := 0) (ci := 1) rfl rfl) rfl hl.1 rfl (Nat.le_of_ble_eq_true rfl) dX2_about_95 ?_
          exact rr_i hx hb hr hlocks dX2_about_98 ((abt_ok (w := 3) qj hn6 (by decide)).symm)
        · refine lv_tableIn (off := 75) (tgt := 99) hx hb dX2_about_24 (by decide) (by decide) rfl (by decide) ?_
          refine lv_aload_n hx hb dX2_about_99 rfl (lv_at hl 0 rfl) ?_
          refine lv_iload_n hx hb dX2_about_100 rfl (lv_at hl 1 rfl) ?_
          refine rdV (As := [.int (nI j)]) (rest := []) hx hb hml hown hg (c_X2_owedBy l D cI cB aS _ pl n st ik td nd nh bs ktd knd knh kbs pg kd ag pa bo dm dn hh hn kag kpa kbo kdm kdn khh khn wb ps ty j (by first | assumption | omega) (by first | assumption | omega) (by first | assumption | omega) (by first | assumption | omega)) gm_108 vf_X2_owedBy ⟨Nat.le_of_ble_eq_true rfl, Nat.le_of_ble_eq_true rfl⟩ ⟨rfl, rfl⟩ ⟨Nat.zero_le _, Nat.zero_le _⟩ (RP.preV hK hP (q0 := 0) (ci := 2) XW_g0 rfl) rfl hl.1 rfl (Nat.le_of_ble_eq_true rfl) dX2_about_101 ?_
          exact rr_i hx hb hr hlocks dX2_about_104 ((abt_ok (w := 4) qj hn6 (by decide)).symm)
        · refine lv_tableOut (tgt := 105) hx hb dX2_about_24 (by decide) (by decide) ?_
          refine lv_aload_n hx hb dX2_about_105 rfl (lv_at hl 0 rfl) ?_
          refine lv_aload_n hx hb dX2_about_106 rfl (lv_at hl 0 rfl) ?_
          refine va_get (D := D) (ci := 2) (v := .ref (a 5)) (C := RX2) (T := TX2) (N := 11) hx hb hg us_X2 hown hK.1 hP 0 XW_g0 rfl 5 (by decide) (hg _ gm_71) (fun _ h9 => h9) rfl dX2_about_107 ?_
          refine va_getN (D := D) (ci := 0) (v := .ref (a 6)) (C := RX0) (T := TX0) (N := 11) hx hb hg us_X0 hown hK.1 hP 5 XW_g5 rfl 4 (by decide) (nl_76 hK) (fun _ h9 => h9) rfl dX2_about_110 ?_
          refine lv_iload_n hx hb dX2_about_113 rfl (lv_at hl 1 rfl) ?_
          have hP_5 : va_P D vwCl [(a 0, .inr (2, [.ref (a 1), .int (nI pl), .int (nI n), .int (nI st), .ref (a 3), .ref (a 5), .ref (a 20), .int ik, .ref (a 35), .ref (a 37), .ref (a 39)])), (a 3, .inr (1, [.ref (a 4)])), (a 4, .inl (cI, 6, .inl kd)), (a 6, .inr (1, [.ref (a 13)])), (a 13, .inl (cI, 6, .inl ag))] _ := P_s5 hP XW_g0 XW_g3 XW_g4 XW_g6 XW_g13
          refine rdV (As := [.ref (a 6), .int (nI j)]) (rest := []) hx hb hml hown hg (c_X2_turnInWalk l D cI cB aS (a 0) (a 3) (a 4) (a 6) (a 13) n ([.ref (a 1), .int (nI pl), .int (nI n), .int (nI st), .ref (a 3), .ref (a 5), .ref (a 20), .int ik, .ref (a 35), .ref (a 37), .ref (a 39)]) kd ag j rfl rfl (by first | assumption | omega) (by first | assumption | omega)) gm_120 vf_X2_turnInWalk ⟨Nat.le_of_ble_eq_true rfl, Nat.le_of_ble_eq_true rfl⟩ ⟨rfl, rfl⟩ ⟨Nat.zero_le _, Nat.zero_le _⟩ (RP.preV hK hP_5 (q0 := 0) (ci := 2) rfl rfl) rfl hl.1 rfl (Nat.le_of_ble_eq_true rfl) dX2_about_114 ?_
          exact rr_i hx hb hr hlocks dX2_about_117 ((abt_ok (w := 5) qj hn6 (by decide)).symm)
      · skip
        refine lv_bipush (v := (-102)) hx hb dX2_about_20 (by decide) ?_
        exact rr_i hx hb hr hlocks dX2_about_22 ((abt_2 qj hn6 (fun q => c_17 q.2)).symm)
  · skip
    refine lv_bipush (v := (-101)) hx hb dX2_about_8 (by decide) ?_
    exact rr_i hx hb hr hlocks dX2_about_10 ((abt_1 c_5).symm)
abbrev rm_X2_as : Room := { frames := 1, cells := 0, slots := 0, locals := 21 }
set_option maxRecDepth 100000 in
set_option maxHeartbeats 4000000 in
theorem c_X2_as (l : Launch) (D : va_G) (cI cB : ClassId) (aS : Nat) (a : Nat → Nat) (pl n st : Nat) (ik : Int32) (td nd nh : Nat) (bs : Int32) (ktd knd knh : Nat) (kbs : Int32) (pg kd ag pa bo dm dn hh hn kag kpa kbo kdm kdn khh khn wb ps ty : Nat → Int32) (x k : Int32) (hn6 : n ≤ 6) : Met l yX2_as (mw yX2_as cX2_as 3 (some .int)) rm_X2_as (RP D cI cB aS (XW cI a pl n st ik td nd nh bs ktd knd knh kbs pg kd ag pa bo dm dn hh hn kag kpa kbo kdm kdn khh khn wb ps ty) [.ref (a 0), .int x, .int k]) (vp_Si (fun r => r = (asF n kd x k))) 0 0 (fun _ => False) := by
  refine met_of (by decide) (Nat.le_of_ble_eq_true rfl) ?_
  intro p e s m below meth c ls hx hb hr hml hown hg hlocks hin hK hP hl
  have hown : s.vm.findClass RX2 = some m.cls := hown
  have hl : lv_has ls 3 [(0, .ref (a 0)), (1, .int x), (2, .int k)] := hl
  refine lv_aload_n hx hb dX2_as_0 rfl (lv_at hl 0 rfl) ?_
  refine lv_iload_n hx hb dX2_as_1 rfl (lv_at hl 1 rfl) ?_
  have hP_1 : va_P D vwCl [(a 0, .inr (2, [.ref (a 1), .int (nI pl), .int (nI n), .int (nI st), .ref (a 3), .ref (a 5), .ref (a 20), .int ik, .ref (a 35), .ref (a 37), .ref (a 39)]))] _ := P_s1 hP XW_g0
  refine rdV (As := [.int x]) (rest := []) hx hb hml hown hg (c_X2_isHouse l D cI cB aS (a 0) n ([.ref (a 1), .int (nI pl), .int (nI n), .int (nI st), .ref (a 3), .ref (a 5), .ref (a 20), .int ik, .ref (a 35), .ref (a 37), .ref (a 39)]) x rfl (by first | assumption | omega)) gm_92 vf_X2_isHouse ⟨Nat.le_of_ble_eq_true rfl, Nat.le_of_ble_eq_true rfl⟩ ⟨rfl, rfl⟩ ⟨Nat.zero_le _, Nat.zero_le _⟩ (RP.preV hK hP_1 (q0 := 0) (ci := 2) rfl rfl) rfl hl.1 rfl (Nat.le_of_ble_eq_true rfl) dX2_as_2 ?_
  refine bv_if_ne (tgt := 11) hx hb dX2_as_5 (by decide) (fun c_5 => ?_) (fun c_5 => ?_)
  · skip
    obtain ⟨j, qj, ex⟩ := hIn_of c_5 (by omega)
    subst ex
    refine lv_iload_n hx hb dX2_as_11 rfl (lv_at hl 2 rfl) ?_
    refine lv_if_lt (tgt := 20) hx hb dX2_as_12 (by decide) (fun c_12 => ?_) (fun c_12 => ?_)
    · skip
      refine lv_bipush (v := (-102)) hx hb dX2_as_20 (by decide) ?_
      exact rr_i hx hb hr hlocks dX2_as_22 ((as_2 qj hn6 (fun q => Int32.not_lt.mpr q.1 c_12)).symm)
    · skip
      refine lv_iload_n hx hb dX2_as_15 rfl (lv_at hl 2 rfl) ?_
      refine lv_iconst (v := (nI 4)) hx hb dX2_as_16 (by decide) ?_
      refine lv_icmp_le (tgt := 23) hx hb dX2_as_17 (by decide) (fun c_17 => ?_) (fun c_17 => ?_)
      · skip
        refine lv_aload_n hx hb dX2_as_23 rfl (lv_at hl 0 rfl) ?_
        refine va_get (D := D) (ci := 2) (v := .ref (a 3)) (C := RX2) (T := TX2) (N := 11) hx hb hg us_X2 hown hK.1 hP 0 XW_g0 rfl 4 (by decide) (hg _ gm_70) (fun _ h9 => h9) rfl dX2_as_24 ?_
        refine lv_iload_n hx hb dX2_as_27 rfl (lv_at hl 1 rfl) ?_
        have hP_2 : va_P D vwCl [(a 3, .inr (1, [.ref (a 4)])), (a 4, .inl (cI, 6, .inl kd))] _ := P_s2 hP XW_g3 XW_g4
        refine rdV (As := [.int (nI j)]) (rest := []) hx hb hml hown hg (c_X1_at l D cI cB aS (a 3) (a 4) 6 kd j (by first | assumption | omega) (by first | assumption | omega)) gm_95 vf_X1_at ⟨Nat.le_of_ble_eq_true rfl, Nat.le_of_ble_eq_true rfl⟩ ⟨rfl, rfl⟩ ⟨Nat.zero_le _, Nat.zero_le _⟩ (RP.preV hK hP_2 (q0 := 0) (ci := 1) rfl rfl) rfl hl.1 rfl (Nat.le_of_ble_eq_true rfl) dX2_as_28 ?_
        refine lv_iload_n hx hb dX2_as_31 rfl (lv_at hl 2 rfl) ?_
        refine rdS (As := [.int (kd j), .int k]) (rest := []) hx hb hml hown hg (c_X2_isA l D cI cB aS (kd j) k) gm_127 sf_X2_isA ⟨Nat.le_of_ble_eq_true rfl, Nat.le_of_ble_eq_true rfl⟩ ⟨rfl, rfl⟩ ⟨Nat.zero_le _, Nat.zero_le _⟩ (RP.preS hK (fun k q h => by simp at h)) rfl hl.1 rfl (Nat.le_of_ble_eq_true rfl) dX2_as_32 ?_
        refine bv_if_eq (tgt := 42) hx hb dX2_as_35 (by decide) (fun c_35 => ?_) (fun c_35 => ?_)
        · skip
          refine lv_iconst (v := (-1)) hx hb dX2_as_42 (by decide) ?_
          exact rr_i hx hb hr hlocks dX2_as_43 (by rw [as_ok qj hn6 ⟨Int32.not_lt.mp c_12, c_17⟩, if_neg (fun q => c_35 (isA_s.mp q))])
        · skip
          refine lv_iload_n hx hb dX2_as_38 rfl (lv_at hl 1 rfl) ?_
          refine lv_goto (tgt := 43) hx hb dX2_as_39 (by decide) ?_
          exact rr_i hx hb hr hlocks dX2_as_43 (by rw [as_ok qj hn6 ⟨Int32.not_lt.mp c_12, c_17⟩, if_pos (isA_s.mpr c_35)])
      · skip
        refine lv_bipush (v := (-102)) hx hb dX2_as_20 (by decide) ?_
        exact rr_i hx hb hr hlocks dX2_as_22 ((as_2 qj hn6 (fun q => c_17 q.2)).symm)
  · skip
    refine lv_bipush (v := (-101)) hx hb dX2_as_8 (by decide) ?_
    exact rr_i hx hb hr hlocks dX2_as_10 ((as_1 c_5).symm)
abbrev rm_X2_then : Room := { frames := 2, cells := 0, slots := 0, locals := 44 }
theorem vf_X2_isDay : vfacts RX2 yX2_isDay cX2_isDay 2 (some .boolean) 1 := ⟨⟨rfl, by decide +kernel, by decide +kernel, by decide +kernel⟩, gm_165, gm_366, gm_2, gm_166⟩
set_option maxRecDepth 100000 in
set_option maxHeartbeats 4000000 in
theorem c_X2_then (l : Launch) (D : va_G) (cI cB : ClassId) (aS : Nat) (a : Nat → Nat) (pl n st : Nat) (ik : Int32) (td nd nh : Nat) (bs : Int32) (ktd knd knh : Nat) (kbs : Int32) (pg kd ag pa bo dm dn hh hn kag kpa kbo kdm kdn khh khn wb ps ty : Nat → Int32) (x d : Int32) (hn6 : n ≤ 6) (qt : td ≤ 30) : Met l yX2_then (mw yX2_then cX2_then 3 (some .int)) rm_X2_then (RP D cI cB aS (XW cI a pl n st ik td nd nh bs ktd knd knh kbs pg kd ag pa bo dm dn hh hn kag kpa kbo kdm kdn khh khn wb ps ty) [.ref (a 0), .int x, .int d]) (vp_Si (fun r => r = (thF n td kd ag pa x d))) 0 0 (fun _ => False) := by
  refine met_of (by decide) (Nat.le_of_ble_eq_true rfl) ?_
  intro p e s m below meth c ls hx hb hr hml hown hg hlocks hin hK hP hl
  have hown : s.vm.findClass RX2 = some m.cls := hown
  have hl : lv_has ls 3 [(0, .ref (a 0)), (1, .int x), (2, .int d)] := hl
  refine lv_aload_n hx hb dX2_then_0 rfl (lv_at hl 0 rfl) ?_
  refine lv_iload_n hx hb dX2_then_1 rfl (lv_at hl 1 rfl) ?_
  have hP_1 : va_P D vwCl [(a 0, .inr (2, [.ref (a 1), .int (nI pl), .int (nI n), .int (nI st), .ref (a 3), .ref (a 5), .ref (a 20), .int ik, .ref (a 35), .ref (a 37), .ref (a 39)]))] _ := P_s1 hP XW_g0
  refine rdV (As := [.int x]) (rest := []) hx hb hml hown hg (c_X2_isHouse l D cI cB aS (a 0) n ([.ref (a 1), .int (nI pl), .int (nI n), .int (nI st), .ref (a 3), .ref (a 5), .ref (a 20), .int ik, .ref (a 35), .ref (a 37), .ref (a 39)]) x rfl (by first | assumption | omega)) gm_92 vf_X2_isHouse ⟨Nat.le_of_ble_eq_true rfl, Nat.le_of_ble_eq_true rfl⟩ ⟨rfl, rfl⟩ ⟨Nat.zero_le _, Nat.zero_le _⟩ (RP.preV hK hP_1 (q0 := 0) (ci := 2) rfl rfl) rfl hl.1 rfl (Nat.le_of_ble_eq_true rfl) dX2_then_2 ?_
  refine bv_if_eq (tgt := 16) hx hb dX2_then_5 (by decide) (fun c_5 => ?_) (fun c_5 => ?_)
  · skip
    refine lv_bipush (v := (-101)) hx hb dX2_then_16 (by decide) ?_
    exact rr_i hx hb hr hlocks dX2_then_18 ((if_neg (fun q => c_5 q.1)).symm)
  · skip
    obtain ⟨j, qj, ex⟩ := hIn_of c_5 (by omega)
    subst ex
    refine lv_aload_n hx hb dX2_then_8 rfl (lv_at hl 0 rfl) ?_
    refine lv_iload_n hx hb dX2_then_9 rfl (lv_at hl 2 rfl) ?_
    refine rdV (As := [.int d]) (rest := []) hx hb hml hown hg (c_X2_isDay l D cI cB aS _ pl n st ik td nd nh bs ktd knd knh kbs pg kd ag pa bo dm dn hh hn kag kpa kbo kdm kdn khh khn wb ps ty d (by first | assumption | omega)) gm_164 vf_X2_isDay ⟨Nat.le_of_ble_eq_true rfl, Nat.le_of_ble_eq_true rfl⟩ ⟨rfl, rfl⟩ ⟨Nat.zero_le _, Nat.zero_le _⟩ (RP.preV hK hP (q0 := 0) (ci := 2) XW_g0 rfl) rfl hl.1 rfl (Nat.le_of_ble_eq_true rfl) dX2_then_10 ?_
    refine bv_if_ne (tgt := 19) hx hb dX2_then_13 (by decide) (fun c_13 => ?_) (fun c_13 => ?_)
    · skip
      obtain ⟨k, qk, ek⟩ := x_in_of ⟨(c_13).2.1, (c_13).2.2⟩ (by omega)
      subst ek
      refine lv_aload_n hx hb dX2_then_19 rfl (lv_at hl 0 rfl) ?_
      refine lv_iload_n hx hb dX2_then_20 rfl (lv_at hl 1 rfl) ?_
      refine lv_iload_n hx hb dX2_then_21 rfl (lv_at hl 2 rfl) ?_
      refine rdV (As := [.int (nI j), .int (nI k)]) (rest := []) hx hb hml hown hg (c_X2_numberOn l D cI cB aS _ pl n st ik td nd nh bs ktd knd knh kbs pg kd ag pa bo dm dn hh hn kag kpa kbo kdm kdn khh khn wb ps ty j k (by first | assumption | omega) (by first | assumption | omega) (by first | assumption | omega) (by first | assumption | omega)) gm_114 vf_X2_numberOn ⟨Nat.le_of_ble_eq_true rfl, Nat.le_of_ble_eq_true rfl⟩ ⟨rfl, rfl⟩ ⟨Nat.zero_le _, Nat.zero_le _⟩ (RP.preV hK hP (q0 := 0) (ci := 2) XW_g0 rfl) rfl hl.1 rfl (Nat.le_of_ble_eq_true rfl) dX2_then_22 ?_
      exact rr_i hx hb hr hlocks dX2_then_25 ((th_ok qj hn6 qk qt).symm)
    · skip
      refine lv_bipush (v := (-101)) hx hb dX2_then_16 (by decide) ?_
      exact rr_i hx hb hr hlocks dX2_then_18 ((if_neg (fun q => c_13 q.2)).symm)
abbrev rm_X2_goesTo : Room := { frames := 3, cells := 0, slots := 0, locals := 67 }
set_option maxRecDepth 100000 in
set_option maxHeartbeats 4000000 in
theorem c_X2_goesTo (l : Launch) (D : va_G) (cI cB : ClassId) (aS : Nat) (a : Nat → Nat) (pl n st : Nat) (ik : Int32) (td nd nh : Nat) (bs : Int32) (ktd knd knh : Nat) (kbs : Int32) (pg kd ag pa bo dm dn hh hn kag kpa kbo kdm kdn khh khn wb ps ty : Nat → Int32) (x d : Int32) (hn6 : n ≤ 6) (qt : td ≤ 30) : Met l yX2_goesTo (mw yX2_goesTo cX2_goesTo 3 (some .int)) rm_X2_goesTo (RP D cI cB aS (XW cI a pl n st ik td nd nh bs ktd knd knh kbs pg kd ag pa bo dm dn hh hn kag kpa kbo kdm kdn khh khn wb ps ty) [.ref (a 0), .int x, .int d]) (vp_Si (fun r => r = (goF n td kd ag pa x d))) 0 0 (fun _ => False) := by
  refine met_of (by decide) (Nat.le_of_ble_eq_true rfl) ?_
  intro p e s m below meth c ls hx hb hr hml hown hg hlocks hin hK hP hl
  have hown : s.vm.findClass RX2 = some m.cls := hown
  have hl : lv_has ls 3 [(0, .ref (a 0)), (1, .int x), (2, .int d)] := hl
  refine lv_aload_n hx hb dX2_goesTo_0 rfl (lv_at hl 0 rfl) ?_
  refine lv_iload_n hx hb dX2_goesTo_1 rfl (lv_at hl 2 rfl) ?_
  refine rdV (As := [.int d]) (rest := []) hx hb hml hown hg (c_X2_isDay l D cI cB aS _ pl n st ik td nd nh bs ktd knd knh kbs pg kd ag pa bo dm dn hh hn kag kpa kbo kdm kdn khh khn wb ps ty d (by first | assumption | omega)) gm_164 vf_X2_isDay ⟨Nat.le_of_ble_eq_true rfl, Nat.le_of_ble_eq_true rfl⟩ ⟨rfl, rfl⟩ ⟨Nat.zero_le _, Nat.zero_le _⟩ (RP.preV hK hP (q0 := 0) (ci := 2) XW_g0 rfl) rfl hl.1 rfl (Nat.le_of_ble_eq_true rfl) dX2_goesTo_2 ?_
  refine bv_if_ne (tgt := 11) hx hb dX2_goesTo_5 (by decide) (fun c_5 => ?_) (fun c_5 => ?_)
  · skip
    obtain ⟨k, qk, ek⟩ := x_in_of ⟨(c_5).2.1, (c_5).2.2⟩ (by omega)
    subst ek
    refine lv_aload_n hx hb dX2_goesTo_11 rfl (lv_at hl 0 rfl) ?_
    refine lv_iload_n hx hb dX2_goesTo_12 rfl (lv_at hl 1 rfl) ?_
    refine lv_iload_n hx hb dX2_goesTo_13 rfl (lv_at hl 2 rfl) ?_
    refine rdV (As := [.int x, .int (nI k)]) (rest := []) hx hb hml hown hg (c_X2_houseWith l D cI cB aS _ pl n st ik td nd nh bs ktd knd knh kbs pg kd ag pa bo dm dn hh hn kag kpa kbo kdm kdn khh khn wb ps ty x k (by first | assumption | omega) (by first | assumption | omega) (by first | assumption | omega)) gm_111 vf_X2_houseWith ⟨Nat.le_of_ble_eq_true rfl, Nat.le_of_ble_eq_true rfl⟩ ⟨rfl, rfl⟩ ⟨Nat.zero_le _, Nat.zero_le _⟩ (RP.preV hK hP (q0 := 0) (ci := 2) XW_g0 rfl) rfl hl.1 rfl (Nat.le_of_ble_eq_true rfl) dX2_goesTo_14 ?_
    exact rr_i hx hb hr hlocks dX2_goesTo_17 ((go_ok c_5.1 qk qt).symm)
  · skip
    refine lv_bipush (v := (-101)) hx hb dX2_goesTo_8 (by decide) ?_
    exact rr_i hx hb hr hlocks dX2_goesTo_10 ((if_neg c_5).symm)
abbrev rm_X2_when : Room := { frames := 1, cells := 0, slots := 0, locals := 21 }
set_option maxRecDepth 100000 in
set_option maxHeartbeats 4000000 in
theorem c_X2_when (l : Launch) (D : va_G) (cI cB : ClassId) (aS : Nat) (a : Nat → Nat) (pl n st : Nat) (ik : Int32) (td nd nh : Nat) (bs : Int32) (ktd knd knh : Nat) (kbs : Int32) (pg kd ag pa bo dm dn hh hn kag kpa kbo kdm kdn khh khn wb ps ty : Nat → Int32) (x y : Int32) (hn6 : n ≤ 6) : Met l yX2_when (mw yX2_when cX2_when 6 (some .int)) rm_X2_when (RP D cI cB aS (XW cI a pl n st ik td nd nh bs ktd knd knh kbs pg kd ag pa bo dm dn hh hn kag kpa kbo kdm kdn khh khn wb ps ty) [.ref (a 0), .int x, .int y]) (vp_Si (fun r => r = (whnF n kd ag x y))) 0 0 (fun _ => False) := by
  refine met_of (by decide) (Nat.le_of_ble_eq_true rfl) ?_
  intro p e s m below meth c ls hx hb hr hml hown hg hlocks hin hK hP hl
  have hown : s.vm.findClass RX2 = some m.cls := hown
  have hl : lv_has ls 6 [(0, .ref (a 0)), (1, .int x), (2, .int y)] := hl
  refine lv_aload_n hx hb dX2_when_0 rfl (lv_at hl 0 rfl) ?_
  refine lv_iload_n hx hb dX2_when_1 rfl (lv_at hl 1 rfl) ?_
  have hP_1 : va_P D vwCl [(a 0, .inr (2, [.ref (a 1), .int (nI pl), .int (nI n), .int (nI st), .ref (a 3), .ref (a 5), .ref (a 20), .int ik, .ref (a 35), .ref (a 37), .ref (a 39)]))] _ := P_s1 hP XW_g0
  refine rdV (As := [.int x]) (rest := []) hx hb hml hown hg (c_X2_isHouse l D cI cB aS (a 0) n ([.ref (a 1), .int (nI pl), .int (nI n), .int (nI st), .ref (a 3), .ref (a 5), .ref (a 20), .int ik, .ref (a 35), .ref (a 37), .ref (a 39)]) x rfl (by first | assumption | omega)) gm_92 vf_X2_isHouse ⟨Nat.le_of_ble_eq_true rfl, Nat.le_of_ble_eq_true rfl⟩ ⟨rfl, rfl⟩ ⟨Nat.zero_le _, Nat.zero_le _⟩ (RP.preV hK hP_1 (q0 := 0) (ci := 2) rfl rfl) rfl hl.1 rfl (Nat.le_of_ble_eq_true rfl) dX2_when_2 ?_
  refine bv_if_ne (tgt := 11) hx hb dX2_when_5 (by decide) (fun c_5 => ?_) (fun c_5 => ?_)
  · skip
    obtain ⟨j, qj, ex⟩ := hIn_of c_5 (by omega)
    subst ex
    refine lv_aload_n hx hb dX2_when_11 rfl (lv_at hl 0 rfl) ?_
    refine va_get (D := D) (ci := 2) (v := .ref (a 3)) (C := RX2) (T := TX2) (N := 11) hx hb hg us_X2 hown hK.1 hP 0 XW_g0 rfl 4 (by decide) (hg _ gm_70) (fun _ h9 => h9) rfl dX2_when_12 ?_
    refine lv_iload_n hx hb dX2_when_15 rfl (lv_at hl 1 rfl) ?_
    have hP_2 : va_P D vwCl [(a 3, .inr (1, [.ref (a 4)])), (a 4, .inl (cI, 6, .inl kd))] _ := P_s2 hP XW_g3 XW_g4
    refine rdV (As := [.int (nI j)]) (rest := []) hx hb hml hown hg (c_X1_at l D cI cB aS (a 3) (a 4) 6 kd j (by first | assumption | omega) (by first | assumption | omega)) gm_95 vf_X1_at ⟨Nat.le_of_ble_eq_true rfl, Nat.le_of_ble_eq_true rfl⟩ ⟨rfl, rfl⟩ ⟨Nat.zero_le _, Nat.zero_le _⟩ (RP.preV hK hP_2 (q0 := 0) (ci := 1) rfl rfl) rfl hl.1 rfl (Nat.le_of_ble_eq_true rfl) dX2_when_16 ?_
    refine lv_istore_n (lv' := [(3, .int (kd j)), (0, .ref (a 0)), (1, .int (nI j)), (2, .int y)]) hx hb dX2_when_19 rfl hl (by decide) rfl (fun ls hl => ?_)
    refine lv_aload_n hx hb dX2_when_20 rfl (lv_at hl 1 rfl) ?_
    refine va_get (D := D) (ci := 2) (v := .ref (a 5)) (C := RX2) (T := TX2) (N := 11) hx hb hg us_X2 hown hK.1 hP 0 XW_g0 rfl 5 (by decide) (hg _ gm_71) (fun _ h9 => h9) rfl dX2_when_21 ?_
    refine va_getN (D := D) (ci := 0) (v := .ref (a 6)) (C := RX0) (T := TX0) (N := 11) hx hb hg us_X0 hown hK.1 hP 5 XW_g5 rfl 4 (by decide) (nl_76 hK) (fun _ h9 => h9) rfl dX2_when_24 ?_
    refine lv_iload_n hx hb dX2_when_27 rfl (lv_at hl 2 rfl) ?_
    have hP_3 : va_P D vwCl [(a 6, .inr (1, [.ref (a 13)])), (a 13, .inl (cI, 6, .inl ag))] _ := P_s2 hP XW_g6 XW_g13
    refine rdV (As := [.int (nI j)]) (rest := []) hx hb hml hown hg (c_X1_at l D cI cB aS (a 6) (a 13) 6 ag j (by first | assumption | omega) (by first | assumption | omega)) gm_95 vf_X1_at ⟨Nat.le_of_ble_eq_true rfl, Nat.le_of_ble_eq_true rfl⟩ ⟨rfl, rfl⟩ ⟨Nat.zero_le _, Nat.zero_le _⟩ (RP.preV hK hP_3 (q0 := 0) (ci := 1) rfl rfl) rfl hl.1 rfl (Nat.le_of_ble_eq_true rfl) dX2_when_28 ?_
    refine lv_istore (lv' := [(4, .int (ag j)), (3, .int (kd j)), (0, .ref (a 0)), (1, .int (nI j)), (2, .int y)]) hx hb dX2_when_31 hl (by decide) rfl (fun ls hl => ?_)
    refine lv_iconst (v := (nI 0)) hx hb dX2_when_33 (by decide) ?_
    refine lv_istore (lv' := [(5, .int (nI 0)), (4, .int (ag j)), (3, .int (kd j)), (0, .ref (a 0)), (1, .int (nI j)), (2, .int y)]) hx hb dX2_when_34 hl (by decide) rfl (fun ls hl => ?_)
    -- loop at 36
    refine loopR (nL := 6) (B := 100) (I := fun i => ∀ k, k < i → decide (numF (kd j) (agF (kd j) (ag j) k) = y) = false) (lv := fun i => [(0, .ref (a 0)), (1, .int (nI j)), (2, .int y), (3, .int (kd j)), (4, .int (agF (kd j) (ag j) i)), (5, .int (nI i))]) 0 (Nat.zero_le _) (fun k h => by omega) (by show lv_has ls 6 [(0, .ref (a 0)), (1, .int (nI j)), (2, .int y), (3, .int (kd j)), (4, .int (agF (kd j) (ag j) 0)), (5, .int (nI 0))]; rw [show (agF (kd j) (ag j) 0) = ag j from agF_0]; exact lv_sub hl [3, 4, 5, 2, 1, 0] rfl) (fun i ls hj hI hl ih => ?_)
    have hl : lv_has ls 6 [(0, .ref (a 0)), (1, .int (nI j)), (2, .int y), (3, .int (kd j)), (4, .int (agF (kd j) (ag j) i)), (5, .int (nI i))] := hl
    have hI : ∀ k, k < i → decide (numF (kd j) (agF (kd j) (ag j) k) = y) = false := hI
    have ih_36 := ih
    refine lv_iload hx hb dX2_when_36 (lv_at hl 5 rfl) ?_
    refine lv_bipush (v := (nI 99)) hx hb dX2_when_38 (by decide) ?_
    refine nv_icmp_gt (tgt := 70) hx hb dX2_when_40 (by omega) (by omega) (by decide) (fun c_40 => ?_) (fun c_40 => ?_)
    · skip
      refine lv_iconst (v := (-1)) hx hb dX2_when_70 (by decide) ?_
      exact rr_i hx hb hr hlocks dX2_when_71 (by rw [whn_ok qj hn6]; exact (ff_no (fun k h => hI k (by omega))).symm)
    · skip
      refine lv_iload_n hx hb dX2_when_43 rfl (lv_at hl 3 rfl) ?_
      refine lv_iload hx hb dX2_when_44 (lv_at hl 4 rfl) ?_
      refine rdS (As := [.int (kd j), .int (agF (kd j) (ag j) i)]) (rest := []) hx hb hml hown hg (c_X2_numberOf l D cI cB aS (kd j) (agF (kd j) (ag j) i)) gm_105 sf_X2_numberOf ⟨Nat.le_of_ble_eq_true rfl, Nat.le_of_ble_eq_true rfl⟩ ⟨rfl, rfl⟩ ⟨Nat.zero_le _, Nat.zero_le _⟩ (RP.preS hK (fun k q h => by simp at h)) rfl hl.1 rfl (Nat.le_of_ble_eq_true rfl) dX2_when_46 ?_
      refine lv_iload_n hx hb dX2_when_49 rfl (lv_at hl 2 rfl) ?_
      refine lv_icmp_ne (tgt := 56) hx hb dX2_when_50 (by decide) (fun c_50 => ?_) (fun c_50 => ?_)
      · skip
        refine lv_iload_n hx hb dX2_when_56 rfl (lv_at hl 3 rfl) ?_
        refine lv_iload hx hb dX2_when_57 (lv_at hl 4 rfl) ?_
        refine rdS (As := [.int (kd j), .int (agF (kd j) (ag j) i)]) (rest := []) hx hb hml hown hg (c_X2_ageNextDay l D cI cB aS (kd j) (agF (kd j) (ag j) i)) gm_157 sf_X2_ageNextDay ⟨Nat.le_of_ble_eq_true rfl, Nat.le_of_ble_eq_true rfl⟩ ⟨rfl, rfl⟩ ⟨Nat.zero_le _, Nat.zero_le _⟩ (RP.preS hK (fun k q h => by simp at h)) rfl hl.1 rfl (Nat.le_of_ble_eq_true rfl) dX2_when_59 ?_
        refine lv_istore (lv' := [(4, .int (nxF (kd j) (agF (kd j) (ag j) i))), (0, .ref (a 0)), (1, .int (nI j)), (2, .int y), (3, .int (kd j)), (5, .int (nI i))]) hx hb dX2_when_62 hl (by decide) rfl (fun ls hl => ?_)
        refine lv_iinc (v := (nI (i + 1))) (lv' := [(5, .int (nI (i + 1))), (4, .int (nxF (kd j) (agF (kd j) (ag j) i))), (0, .ref (a 0)), (1, .int (nI j)), (2, .int y), (3, .int (kd j))]) hx hb dX2_when_64 hl (k := 5) rfl (nI_i1 _) (by decide) rfl (fun ls hl => ?_)
        refine lv_goto (tgt := 36) hx hb dX2_when_67 (by decide) ?_
        exact ih_36 _ (by omega) ((fun k h => by rcases Nat.lt_succ_iff_lt_or_eq.mp h with h | h; exact hI k h; rw [h]; exact decide_eq_false c_50)) (by show lv_has ls 6 [(0, .ref (a 0)), (1, .int (nI j)), (2, .int y), (3, .int (kd j)), (4, .int (agF (kd j) (ag j) (i + 1))), (5, .int (nI (i + 1)))]; rw [show (agF (kd j) (ag j) (i + 1)) = nxF (kd j) (agF (kd j) (ag j) i) from agF_s]; exact lv_sub hl [2, 3, 4, 5, 1, 0] rfl)
      · skip
        refine lv_iload hx hb dX2_when_53 (lv_at hl 5 rfl) ?_
        exact rr_i hx hb hr hlocks dX2_when_55 (by rw [whn_ok qj hn6]; exact (ff_at (by omega) hI (decide_eq_true c_50)).symm)
  · skip
    refine lv_bipush (v := (-101)) hx hb dX2_when_8 (by decide) ?_
    exact rr_i hx hb hr hlocks dX2_when_10 ((if_neg c_5).symm)
abbrev rm_X2_count : Room := { frames := 5, cells := 0, slots := 0, locals := 112 }
theorem vf_X2_allNumbers : vfacts RX2 yX2_allNumbers cX2_allNumbers 4 (some .int) 1 := ⟨⟨rfl, by decide +kernel, by decide +kernel, by decide +kernel⟩, gm_218, gm_371, gm_2, gm_219⟩
theorem vf_X2_unlikeNumbers : vfacts RX2 yX2_unlikeNumbers cX2_unlikeNumbers 3 (some .int) 0 := ⟨⟨rfl, by decide +kernel, by decide +kernel, by decide +kernel⟩, gm_225, gm_372, gm_2, gm_226⟩
theorem vf_X2_owedByAll : vfacts RX2 yX2_owedByAll cX2_owedByAll 3 (some .int) 0 := ⟨⟨rfl, by decide +kernel, by decide +kernel, by decide +kernel⟩, gm_228, gm_373, gm_2, gm_229⟩
set_option maxRecDepth 100000 in
set_option maxHeartbeats 4000000 in
theorem c_X2_count (l : Launch) (D : va_G) (cI cB : ClassId) (aS : Nat) (a : Nat → Nat) (pl n st : Nat) (ik : Int32) (td nd nh : Nat) (bs : Int32) (ktd knd knh : Nat) (kbs : Int32) (pg kd ag pa bo dm dn hh hn kag kpa kbo kdm kdn khh khn wb ps ty : Nat → Int32) (w : Int32) (hn6 : n ≤ 6) (qnd : nd ≤ 6) (qt : td ≤ 30) : Met l yX2_count (mw yX2_count cX2_count 2 (some .int)) rm_X2_count (RP D cI cB aS (XW cI a pl n st ik td nd nh bs ktd knd knh kbs pg kd ag pa bo dm dn hh hn kag kpa kbo kdm kdn khh khn wb ps ty) [.ref (a 0), .int w]) (vp_Si (fun r => r = (cntF n td bs kd ag dm dn nd nh pl st w))) 0 0 (fun _ => False) := by
  refine met_of (by decide) (Nat.le_of_ble_eq_true rfl) ?_
  intro p e s m below meth c ls hx hb hr hml hown hg hlocks hin hK hP hl
  have hown : s.vm.findClass RX2 = some m.cls := hown
  have hl : lv_has ls 2 [(0, .ref (a 0)), (1, .int w)] := hl
  refine lv_iload_n hx hb dX2_count_0 rfl (lv_at hl 1 rfl) ?_
  by_cases c_1 : x_in w 9
  · obtain ⟨w_1, hw_1, ew_1⟩ := x_in_of c_1 (by decide)
    subst ew_1
    rcases (show w_1 = 0 ∨ w_1 = 1 ∨ w_1 = 2 ∨ w_1 = 3 ∨ w_1 = 4 ∨ w_1 = 5 ∨ w_1 = 6 ∨ w_1 = 7 ∨ w_1 = 8 ∨ w_1 = 9 by omega) with rfl | rfl | rfl | rfl | rfl | rfl | rfl | rfl | rfl | rfl
    · refine lv_tableIn (off := 55) (tgt := 56) hx hb dX2_count_1 (by decide) (by decide) rfl (by decide) ?_
      refine lv_aload_n hx hb dX2_count_56 rfl (lv_at hl 0 rfl) ?_
      refine va_get (D := D) (ci := 2) (v := .int (nI n)) (C := RX2) (T := TX2) (N := 11) hx hb hg us_X2 hown hK.1 hP 0 XW_g0 rfl 2 (by decide) (hg _ gm_68) (fun _ h9 => h9) rfl dX2_count_57 ?_
      exact rr_i hx hb hr hlocks dX2_count_60 ((cnt_ok (w := 0) (by decide)).symm)
    · refine lv_tableIn (off := 60) (tgt := 61) hx hb dX2_count_1 (by decide) (by decide) rfl (by decide) ?_
      refine lv_aload_n hx hb dX2_count_61 rfl (lv_at hl 0 rfl) ?_
      refine va_get (D := D) (ci := 2) (v := .ref (a 5)) (C := RX2) (T := TX2) (N := 11) hx hb hg us_X2 hown hK.1 hP 0 XW_g0 rfl 5 (by decide) (hg _ gm_71) (fun _ h9 => h9) rfl dX2_count_62 ?_
      refine va_getN (D := D) (ci := 0) (v := .int (nI td)) (C := RX0) (T := TX0) (N := 11) hx hb hg us_X0 hown hK.1 hP 5 XW_g5 rfl 0 (by decide) (nl_112 hK) (fun _ h9 => h9) rfl dX2_count_65 ?_
      exact rr_i hx hb hr hlocks dX2_count_68 ((cnt_ok (w := 1) (by decide)).symm)
    · refine lv_tableIn (off := 68) (tgt := 69) hx hb dX2_count_1 (by decide) (by decide) rfl (by decide) ?_
      refine lv_aload_n hx hb dX2_count_69 rfl (lv_at hl 0 rfl) ?_
      refine va_get (D := D) (ci := 2) (v := .ref (a 5)) (C := RX2) (T := TX2) (N := 11) hx hb hg us_X2 hown hK.1 hP 0 XW_g0 rfl 5 (by decide) (hg _ gm_71) (fun _ h9 => h9) rfl dX2_count_70 ?_
      refine va_getN (D := D) (ci := 0) (v := .int bs) (C := RX0) (T := TX0) (N := 11) hx hb hg us_X0 hown hK.1 hP 5 XW_g5 rfl 1 (by decide) (nl_103 hK) (fun _ h9 => h9) rfl dX2_count_73 ?_
      exact rr_i hx hb hr hlocks dX2_count_76 ((cnt_ok (w := 2) (by decide)).symm)
    · refine lv_tableIn (off := 76) (tgt := 77) hx hb dX2_count_1 (by decide) (by decide) rfl (by decide) ?_
      refine lv_aload_n hx hb dX2_count_77 rfl (lv_at hl 0 rfl) ?_
      refine lv_aload_n hx hb dX2_count_78 rfl (lv_at hl 0 rfl) ?_
      refine va_get (D := D) (ci := 2) (v := .ref (a 5)) (C := RX2) (T := TX2) (N := 11) hx hb hg us_X2 hown hK.1 hP 0 XW_g0 rfl 5 (by decide) (hg _ gm_71) (fun _ h9 => h9) rfl dX2_count_79 ?_
      refine va_getN (D := D) (ci := 0) (v := .ref (a 6)) (C := RX0) (T := TX0) (N := 11) hx hb hg us_X0 hown hK.1 hP 5 XW_g5 rfl 4 (by decide) (nl_76 hK) (fun _ h9 => h9) rfl dX2_count_82 ?_
      have hP_1 : va_P D vwCl [(a 0, .inr (2, [.ref (a 1), .int (nI pl), .int (nI n), .int (nI st), .ref (a 3), .ref (a 5), .ref (a 20), .int ik, .ref (a 35), .ref (a 37), .ref (a 39)])), (a 3, .inr (1, [.ref (a 4)])), (a 4, .inl (cI, 6, .inl kd)), (a 6, .inr (1, [.ref (a 13)])), (a 13, .inl (cI, 6, .inl ag))] _ := P_s5 hP XW_g0 XW_g3 XW_g4 XW_g6 XW_g13
      refine rdV (As := [.ref (a 6)]) (rest := []) hx hb hml hown hg (c_X2_allNumbers l D cI cB aS (a 0) (a 3) (a 4) (a 6) (a 13) n ([.ref (a 1), .int (nI pl), .int (nI n), .int (nI st), .ref (a 3), .ref (a 5), .ref (a 20), .int ik, .ref (a 35), .ref (a 37), .ref (a 39)]) kd ag rfl rfl (by first | assumption | omega)) gm_217 vf_X2_allNumbers ⟨Nat.le_of_ble_eq_true rfl, Nat.le_of_ble_eq_true rfl⟩ ⟨rfl, rfl⟩ ⟨Nat.zero_le _, Nat.zero_le _⟩ (RP.preV hK hP_1 (q0 := 0) (ci := 2) rfl rfl) rfl hl.1 rfl (Nat.le_of_ble_eq_true rfl) dX2_count_85 ?_
      exact rr_i hx hb hr hlocks dX2_count_88 ((cnt_ok (w := 3) (by decide)).symm)
    · refine lv_tableIn (off := 88) (tgt := 89) hx hb dX2_count_1 (by decide) (by decide) rfl (by decide) ?_
      refine lv_aload_n hx hb dX2_count_89 rfl (lv_at hl 0 rfl) ?_
      refine rdV (As := []) (rest := []) hx hb hml hown hg (c_X2_unlikeNumbers l D cI cB aS _ pl n st ik td nd nh bs ktd knd knh kbs pg kd ag pa bo dm dn hh hn kag kpa kbo kdm kdn khh khn wb ps ty (by first | assumption | omega) (by first | assumption | omega)) gm_224 vf_X2_unlikeNumbers ⟨Nat.le_of_ble_eq_true rfl, Nat.le_of_ble_eq_true rfl⟩ ⟨rfl, rfl⟩ ⟨Nat.zero_le _, Nat.zero_le _⟩ (RP.preV hK hP (q0 := 0) (ci := 2) XW_g0 rfl) rfl hl.1 rfl (Nat.le_of_ble_eq_true rfl) dX2_count_90 ?_
      exact rr_i hx hb hr hlocks dX2_count_93 ((cnt_ok (w := 4) (by decide)).symm)
    · refine lv_tableIn (off := 93) (tgt := 94) hx hb dX2_count_1 (by decide) (by decide) rfl (by decide) ?_
      refine lv_aload_n hx hb dX2_count_94 rfl (lv_at hl 0 rfl) ?_
      refine va_get (D := D) (ci := 2) (v := .ref (a 5)) (C := RX2) (T := TX2) (N := 11) hx hb hg us_X2 hown hK.1 hP 0 XW_g0 rfl 5 (by decide) (hg _ gm_71) (fun _ h9 => h9) rfl dX2_count_95 ?_
      refine va_getN (D := D) (ci := 0) (v := .int (nI nd)) (C := RX0) (T := TX0) (N := 11) hx hb hg us_X0 hown hK.1 hP 5 XW_g5 rfl 2 (by decide) (nl_139 hK) (fun _ h9 => h9) rfl dX2_count_98 ?_
      exact rr_i hx hb hr hlocks dX2_count_101 ((cnt_ok (w := 5) (by decide)).symm)
    · refine lv_tableIn (off := 101) (tgt := 102) hx hb dX2_count_1 (by decide) (by decide) rfl (by decide) ?_
      refine lv_aload_n hx hb dX2_count_102 rfl (lv_at hl 0 rfl) ?_
      refine rdV (As := []) (rest := []) hx hb hml hown hg (c_X2_owedByAll l D cI cB aS _ pl n st ik td nd nh bs ktd knd knh kbs pg kd ag pa bo dm dn hh hn kag kpa kbo kdm kdn khh khn wb ps ty (by first | assumption | omega) (by first | assumption | omega) (by first | assumption | omega)) gm_227 vf_X2_owedByAll ⟨Nat.le_of_ble_eq_true rfl, Nat.le_of_ble_eq_true rfl⟩ ⟨rfl, rfl⟩ ⟨Nat.zero_le _, Nat.zero_le _⟩ (RP.preV hK hP (q0 := 0) (ci := 2) XW_g0 rfl) rfl hl.1 rfl (Nat.le_of_ble_eq_true rfl) dX2_count_103 ?_
      exact rr_i hx hb hr hlocks dX2_count_106 ((cnt_ok (w := 6) (by decide)).symm)
    · refine lv_tableIn (off := 106) (tgt := 107) hx hb dX2_count_1 (by decide) (by decide) rfl (by decide) ?_
      refine lv_aload_n hx hb dX2_count_107 rfl (lv_at hl 0 rfl) ?_
      refine va_get (D := D) (ci := 2) (v := .ref (a 5)) (C := RX2) (T := TX2) (N := 11) hx hb hg us_X2 hown hK.1 hP 0 XW_g0 rfl 5 (by decide) (hg _ gm_71) (fun _ h9 => h9) rfl dX2_count_108 ?_
      refine va_getN (D := D) (ci := 0) (v := .int (nI nh)) (C := RX0) (T := TX0) (N := 11) hx hb hg us_X0 hown hK.1 hP 5 XW_g5 rfl 3 (by decide) (nl_162 hK) (fun _ h9 => h9) rfl dX2_count_111 ?_
      exact rr_i hx hb hr hlocks dX2_count_114 ((cnt_ok (w := 7) (by decide)).symm)
    · refine lv_tableIn (off := 114) (tgt := 115) hx hb dX2_count_1 (by decide) (by decide) rfl (by decide) ?_
      refine lv_aload_n hx hb dX2_count_115 rfl (lv_at hl 0 rfl) ?_
      refine va_get (D := D) (ci := 2) (v := .int (nI pl)) (C := RX2) (T := TX2) (N := 11) hx hb hg us_X2 hown hK.1 hP 0 XW_g0 rfl 1 (by decide) (hg _ gm_67) (fun _ h9 => h9) rfl dX2_count_116 ?_
      exact rr_i hx hb hr hlocks dX2_count_119 ((cnt_ok (w := 8) (by decide)).symm)
    · refine lv_tableIn (off := 119) (tgt := 120) hx hb dX2_count_1 (by decide) (by decide) rfl (by decide) ?_
      refine lv_aload_n hx hb dX2_count_120 rfl (lv_at hl 0 rfl) ?_
      refine va_get (D := D) (ci := 2) (v := .int (nI st)) (C := RX2) (T := TX2) (N := 11) hx hb hg us_X2 hown hK.1 hP 0 XW_g0 rfl 3 (by decide) (hg _ gm_69) (fun _ h9 => h9) rfl dX2_count_121 ?_
      exact rr_i hx hb hr hlocks dX2_count_124 ((cnt_ok (w := 9) (by decide)).symm)
  · refine lv_tableOut (tgt := 125) hx hb dX2_count_1 (x_out c_1 (by decide)) (by decide) ?_
    refine lv_bipush (v := (-102)) hx hb dX2_count_125 (by decide) ?_
    exact rr_i hx hb hr hlocks dX2_count_127 ((if_neg c_1).symm)
end
section
abbrev rm_X2_pay : Room := { frames := 1, cells := 0, slots := 0, locals := 21 }
theorem XW_set_1 {cI : ClassId} {a : Nat → Nat} {pl n st : Nat} {ik : Int32} {td nd nh : Nat} {bs : Int32} {ktd knd knh : Nat} {kbs : Int32} {pg kd ag pa bo dm dn hh hn kag kpa kbo kdm kdn khh khn wb ps ty : Nat → Int32} {z0 : Nat} : List.set (XW cI a pl n st ik td nd nh bs ktd knd knh kbs pg kd ag pa bo dm dn hh hn kag kpa kbo kdm kdn khh khn wb ps ty) 5 (a 5, .inr (0, List.set [.int (nI td), .int bs, .int (nI nd), .int (nI nh), .ref (a 6), .ref (a 7), .ref (a 8), .ref (a 9), .ref (a 10), .ref (a 11), .ref (a 12)] 2 (.int (nI z0)))) = XW cI a pl n st ik td z0 nh bs ktd knd knh kbs pg kd ag pa bo dm dn hh hn kag kpa kbo kdm kdn khh khn wb ps ty := rfl
set_option maxRecDepth 100000 in
set_option maxHeartbeats 4000000 in
theorem c_X2_pay (l : Launch) (D : va_G) (cI cB : ClassId) (aS : Nat) (a : Nat → Nat) (pl n st : Nat) (ik : Int32) (td nd nh : Nat) (bs : Int32) (ktd knd knh : Nat) (kbs : Int32) (pg kd ag pa bo dm dn hh hn kag kpa kbo kdm kdn khh khn wb ps ty : Nat → Int32)  (hD0 : va_D (fun _ => True) (XW cI a pl n st ik td nd nh bs ktd knd knh kbs pg kd ag pa bo dm dn hh hn kag kpa kbo kdm kdn khh khn wb ps ty)) (qnd : nd ≤ 6) : Met l yX2_pay (mw yX2_pay cX2_pay 3 (some .int)) rm_X2_pay (RP D cI cB aS (XW cI a pl n st ik td nd nh bs ktd knd knh kbs pg kd ag pa bo dm dn hh hn kag kpa kbo kdm kdn khh khn wb ps ty) [.ref (a 0)]) (wq mkI (XW cI a pl n st ik td nd nh bs ktd knd knh kbs pg kd ag pa bo dm dn hh hn kag kpa kbo kdm kdn khh khn wb ps ty) (fun (_ : Unit) => XW cI a pl n st ik td 0 nh bs ktd knd knh kbs pg kd ag pa bo dm dn hh hn kag kpa kbo kdm kdn khh khn wb ps ty) D (fun (r : Int32) (_ : Unit) => r = (sm dm nd))) 0 0 (inW (XW cI a pl n st ik td nd nh bs ktd knd knh kbs pg kd ag pa bo dm dn hh hn kag kpa kbo kdm kdn khh khn wb ps ty)) := by
  refine met_of (by decide) (Nat.le_of_ble_eq_true rfl) ?_
  intro p e s m below meth c ls hx hb hr hml hown hg hlocks hin hK hP hl
  have hown : s.vm.findClass RX2 = some m.cls := hown
  have hl : lv_has ls 3 [(0, .ref (a 0))] := hl
  have hD := hD0.here
  have hS0 : va_S (inW (XW cI a pl n st ik td nd nh bs ktd knd knh kbs pg kd ag pa bo dm dn hh hn kag kpa kbo kdm kdn khh khn wb ps ty)) s.heap s.heap [] := va_S.rf
  obtain ⟨H, hH⟩ : ∃ H, H = s.heap := ⟨_, rfl⟩
  have hS : va_S (inW (XW cI a pl n st ik td nd nh bs ktd knd knh kbs pg kd ag pa bo dm dn hh hn kag kpa kbo kdm kdn khh khn wb ps ty)) s.heap H [] := by rw [hH]; exact hS0
  clear hS0
  rw [← hH] at hP ⊢
  generalize hAe : inW (XW cI a pl n st ik td nd nh bs ktd knd knh kbs pg kd ag pa bo dm dn hh hn kag kpa kbo kdm kdn khh khn wb ps ty) = A at hD hS ⊢
  refine lv_iconst (v := (nI 0)) hx hb dX2_pay_0 (by decide) ?_
  refine lv_istore_n (lv' := [(1, .int (nI 0)), (0, .ref (a 0))]) hx hb dX2_pay_1 rfl hl (by decide) rfl (fun ls hl => ?_)
  refine lv_iconst (v := (nI 0)) hx hb dX2_pay_2 (by decide) ?_
  refine lv_istore_n (lv' := [(2, .int (nI 0)), (1, .int (nI 0)), (0, .ref (a 0))]) hx hb dX2_pay_3 rfl hl (by decide) rfl (fun ls hl => ?_)
  -- loop at 4
  refine loopW (nL := 3) (S := Unit) (B := nd) (I := fun i u => True) (lv := fun i u => [(0, .ref (a 0)), (1, .int (sm dm i)), (2, .int (nI i))]) (wf := fun i u => XW cI a pl n st ik td nd nh bs ktd knd knh kbs pg kd ag pa bo dm dn hh hn kag kpa kbo kdm kdn khh khn wb ps ty) 0 () (Nat.zero_le _) (trivial) (by show lv_has ls 3 [(0, .ref (a 0)), (1, .int (sm dm 0)), (2, .int (nI 0))]; exact lv_sub hl [2, 1, 0] rfl) hP (hD.addr (XW_addr.trans XW_addr.symm)) hS (fun i u ls H locs hj hI hl hP hD hS ih => ?_)
  have hP : va_P D vwCl (XW cI a pl n st ik td nd nh bs ktd knd knh kbs pg kd ag pa bo dm dn hh hn kag kpa kbo kdm kdn khh khn wb ps ty) H := hP
  have hD : va_D A (XW cI a pl n st ik td nd nh bs ktd knd knh kbs pg kd ag pa bo dm dn hh hn kag kpa kbo kdm kdn khh khn wb ps ty) := hD
  have hl : lv_has ls 3 [(0, .ref (a 0)), (1, .int (sm dm i)), (2, .int (nI i))] := hl
  have ih_4 := ih
  refine lv_iload_n hx hb dX2_pay_4 rfl (lv_at hl 2 rfl) ?_
  refine lv_aload_n hx hb dX2_pay_5 rfl (lv_at hl 0 rfl) ?_
  refine va_get (D := D) (ci := 2) (v := .ref (a 5)) (C := RX2) (T := TX2) (N := 11) hx hb hg us_X2 hown hK.1 hP 0 XW_g0 rfl 5 (by decide) (hg _ gm_71) (fun _ h9 => h9) rfl dX2_pay_6 ?_
  refine va_getN (D := D) (ci := 0) (v := .int (nI nd)) (C := RX0) (T := TX0) (N := 11) hx hb hg us_X0 hown hK.1 hP 5 XW_g5 rfl 2 (by decide) (nl_139 hK) (fun _ h9 => h9) rfl dX2_pay_9 ?_
  refine nv_icmp_ge (tgt := 35) hx hb dX2_pay_12 (by omega) (by omega) (by decide) (fun c_12 => ?_) (fun c_12 => ?_)
  · skip
    refine lv_aload_n hx hb dX2_pay_35 rfl (lv_at hl 0 rfl) ?_
    refine va_get (D := D) (ci := 2) (v := .ref (a 5)) (C := RX2) (T := TX2) (N := 11) hx hb hg us_X2 hown hK.1 hP 0 XW_g0 rfl 5 (by decide) (hg _ gm_71) (fun _ h9 => h9) rfl dX2_pay_36 ?_
    refine lv_iconst (v := (nI 0)) hx hb dX2_pay_39 (by decide) ?_
    refine va_putN (D := D) (ci := 0) (v := .int (nI 0)) (ty := .int) (C := RX0) (T := TX0) (N := 11) hx hb hg us_X0 tyX0 tyX0_ok nmX0 hown hK.1 hP hD hS 5 XW_g5 rfl 2 (by decide) (nl_139 hK) (fun _ h9 => h9) rfl (by decide +kernel) rfl rfl (Nat.le_of_ble_eq_true rfl) dX2_pay_40 (fun H locs hP hD hS => ?_)
    have hP : va_P D vwCl (XW cI a pl n st ik td 0 nh bs ktd knd knh kbs pg kd ag pa bo dm dn hh hn kag kpa kbo kdm kdn khh khn wb ps ty) H := P_eq hP XW_set_1
    have hD : va_D A (XW cI a pl n st ik td 0 nh bs ktd knd knh kbs pg kd ag pa bo dm dn hh hn kag kpa kbo kdm kdn khh khn wb ps ty) := D_eq hD XW_set_1
    refine lv_iload_n hx hb dX2_pay_43 rfl (lv_at hl 1 rfl) ?_
    subst hAe
    exact wr_i (w1 := fun (_ : Unit) => XW cI a pl n st ik td 0 nh bs ktd knd knh kbs pg kd ag pa bo dm dn hh hn kag kpa kbo kdm kdn khh khn wb ps ty) hx hb hr hlocks hS () hP dX2_pay_44 (by rw [show i = nd by omega])
  · skip
    refine lv_iload_n hx hb dX2_pay_15 rfl (lv_at hl 1 rfl) ?_
    refine lv_aload_n hx hb dX2_pay_16 rfl (lv_at hl 0 rfl) ?_
    refine va_get (D := D) (ci := 2) (v := .ref (a 5)) (C := RX2) (T := TX2) (N := 11) hx hb hg us_X2 hown hK.1 hP 0 XW_g0 rfl 5 (by decide) (hg _ gm_71) (fun _ h9 => h9) rfl dX2_pay_17 ?_
    refine va_getN (D := D) (ci := 0) (v := .ref (a 9)) (C := RX0) (T := TX0) (N := 11) hx hb hg us_X0 hown hK.1 hP 5 XW_g5 rfl 7 (by decide) (nl_142 hK) (fun _ h9 => h9) rfl dX2_pay_20 ?_
    refine lv_iload_n hx hb dX2_pay_23 rfl (lv_at hl 2 rfl) ?_
    have hP_1 : va_P D vwCl [(a 9, .inr (1, [.ref (a 16)])), (a 16, .inl (cI, 6, .inl dm))] _ := P_s2 hP XW_g9 XW_g16
    refine rdV (As := [.int (nI i)]) (rest := [.int (sm dm i)]) hx hb hml hown hg (c_X1_at l D cI cB aS (a 9) (a 16) 6 dm i (by first | assumption | omega) (by first | assumption | omega)) gm_95 vf_X1_at ⟨Nat.le_of_ble_eq_true rfl, Nat.le_of_ble_eq_true rfl⟩ ⟨rfl, rfl⟩ ⟨Nat.zero_le _, Nat.zero_le _⟩ (RP.preV hK hP_1 (q0 := 0) (ci := 1) rfl rfl) rfl hl.1 rfl (Nat.le_of_ble_eq_true rfl) dX2_pay_24 ?_
    refine lv_iadd hx hb dX2_pay_27 ?_
    refine lv_istore_n (lv' := [(1, .int ((sm dm i) + (dm i))), (0, .ref (a 0)), (2, .int (nI i))]) hx hb dX2_pay_28 rfl hl (by decide) rfl (fun ls hl => ?_)
    refine lv_iinc (v := (nI (i + 1))) (lv' := [(2, .int (nI (i + 1))), (1, .int ((sm dm i) + (dm i))), (0, .ref (a 0))]) hx hb dX2_pay_29 hl (k := 2) rfl (nI_i1 _) (by decide) rfl (fun ls hl => ?_)
    refine lv_goto (tgt := 4) hx hb dX2_pay_32 (by decide) ?_
    exact ih_4 () _ _ _ (by omega) (trivial) (by show lv_has ls 3 [(0, .ref (a 0)), (1, .int (sm dm (i + 1))), (2, .int (nI (i + 1)))]; rw [show (sm dm (i + 1)) = (sm dm i) + (dm i) from rfl]; exact lv_sub hl [2, 1, 0] rfl) hP (hD.addr (XW_addr.trans XW_addr.symm)) hS
abbrev rm_X2_letter : Room := { frames := 1, cells := 0, slots := 0, locals := 22 }
theorem XW_wsets_2 {cI : ClassId} {a : Nat → Nat} {pl n st : Nat} {ik : Int32} {td nd nh : Nat} {bs : Int32} {ktd knd knh : Nat} {kbs : Int32} {pg kd ag pa bo dm dn hh hn kag kpa kbo kdm kdn khh khn wb ps ty : Nat → Int32} {z0 : Nat → Int32} : wsets (XW cI a pl n st ik td nd nh bs ktd knd knh kbs pg kd ag pa bo dm dn hh hn kag kpa kbo kdm kdn khh khn wb ps ty) [1, 2] [(a 1, .inr (1, [.ref (a 2)])), (a 2, .inl (cI, 19, .inl z0))] = XW cI a pl n st ik td nd nh bs ktd knd knh kbs z0 kd ag pa bo dm dn hh hn kag kpa kbo kdm kdn khh khn wb ps ty := rfl
theorem XW_set_3 {cI : ClassId} {a : Nat → Nat} {pl n st : Nat} {ik : Int32} {td nd nh : Nat} {bs : Int32} {ktd knd knh : Nat} {kbs : Int32} {pg kd ag pa bo dm dn hh hn kag kpa kbo kdm kdn khh khn wb ps ty : Nat → Int32} {z0 : Nat} : List.set (XW cI a pl n st ik td nd nh bs ktd knd knh kbs pg kd ag pa bo dm dn hh hn kag kpa kbo kdm kdn khh khn wb ps ty) 0 (a 0, .inr (2, List.set [.ref (a 1), .int (nI pl), .int (nI n), .int (nI st), .ref (a 3), .ref (a 5), .ref (a 20), .int ik, .ref (a 35), .ref (a 37), .ref (a 39)] 1 (.int (nI z0)))) = XW cI a z0 n st ik td nd nh bs ktd knd knh kbs pg kd ag pa bo dm dn hh hn kag kpa kbo kdm kdn khh khn wb ps ty := rfl
set_option maxRecDepth 100000 in
set_option maxHeartbeats 4000000 in
theorem c_X2_letter (l : Launch) (D : va_G) (cI cB : ClassId) (aS : Nat) (a : Nat → Nat) (pl n st : Nat) (ik : Int32) (td nd nh : Nat) (bs : Int32) (ktd knd knh : Nat) (kbs : Int32) (pg kd ag pa bo dm dn hh hn kag kpa kbo kdm kdn khh khn wb ps ty : Nat → Int32) (x : Int32) (hD0 : va_D (fun _ => True) (XW cI a pl n st ik td nd nh bs ktd knd knh kbs pg kd ag pa bo dm dn hh hn kag kpa kbo kdm kdn khh khn wb ps ty)) (qpl : pl ≤ 19) : Met l yX2_letter (mw yX2_letter cX2_letter 2 (some .int)) rm_X2_letter (RP D cI cB aS (XW cI a pl n st ik td nd nh bs ktd knd knh kbs pg kd ag pa bo dm dn hh hn kag kpa kbo kdm kdn khh khn wb ps ty) [.ref (a 0), .int x]) (wq mkI (XW cI a pl n st ik td nd nh bs ktd knd knh kbs pg kd ag pa bo dm dn hh hn kag kpa kbo kdm kdn khh khn wb ps ty) (fun (u : (Nat → Int32) × Nat) => XW cI a u.2 n st ik td nd nh bs ktd knd knh kbs u.1 kd ag pa bo dm dn hh hn kag kpa kbo kdm kdn khh khn wb ps ty) D (fun (r : Int32) (u : (Nat → Int32) × Nat) => (r, u) = letF pg pl x)) 0 0 (inW (XW cI a pl n st ik td nd nh bs ktd knd knh kbs pg kd ag pa bo dm dn hh hn kag kpa kbo kdm kdn khh khn wb ps ty)) := by
  refine met_of (by decide) (Nat.le_of_ble_eq_true rfl) ?_
  intro p e s m below meth c ls hx hb hr hml hown hg hlocks hin hK hP hl
  have hown : s.vm.findClass RX2 = some m.cls := hown
  have hl : lv_has ls 2 [(0, .ref (a 0)), (1, .int x)] := hl
  have hD := hD0.here
  have hS0 : va_S (inW (XW cI a pl n st ik td nd nh bs ktd knd knh kbs pg kd ag pa bo dm dn hh hn kag kpa kbo kdm kdn khh khn wb ps ty)) s.heap s.heap [] := va_S.rf
  obtain ⟨H, hH⟩ : ∃ H, H = s.heap := ⟨_, rfl⟩
  have hS : va_S (inW (XW cI a pl n st ik td nd nh bs ktd knd knh kbs pg kd ag pa bo dm dn hh hn kag kpa kbo kdm kdn khh khn wb ps ty)) s.heap H [] := by rw [hH]; exact hS0
  clear hS0
  rw [← hH] at hP ⊢
  generalize hAe : inW (XW cI a pl n st ik td nd nh bs ktd knd knh kbs pg kd ag pa bo dm dn hh hn kag kpa kbo kdm kdn khh khn wb ps ty) = A at hD hS ⊢
  refine lv_iload_n hx hb dX2_letter_0 rfl (lv_at hl 1 rfl) ?_
  refine lv_bipush (v := (nI 32)) hx hb dX2_letter_1 (by decide) ?_
  refine lv_icmp_lt (tgt := 12) hx hb dX2_letter_3 (by decide) (fun c_3 => ?_) (fun c_3 => ?_)
  · skip
    refine lv_bipush (v := (-102)) hx hb dX2_letter_12 (by decide) ?_
    subst hAe
    exact wr_i (w1 := fun (u : (Nat → Int32) × Nat) => XW cI a u.2 n st ik td nd nh bs ktd knd knh kbs u.1 kd ag pa bo dm dn hh hn kag kpa kbo kdm kdn khh khn wb ps ty) hx hb hr hlocks hS (pg, pl) hP dX2_letter_14 ((if_neg (fun q => Int32.not_lt.mpr q.1 c_3)).symm)
  · skip
    refine lv_iload_n hx hb dX2_letter_6 rfl (lv_at hl 1 rfl) ?_
    refine lv_bipush (v := (nI 126)) hx hb dX2_letter_7 (by decide) ?_
    refine lv_icmp_le (tgt := 15) hx hb dX2_letter_9 (by decide) (fun c_9 => ?_) (fun c_9 => ?_)
    · skip
      refine lv_aload_n hx hb dX2_letter_15 rfl (lv_at hl 0 rfl) ?_
      refine va_get (D := D) (ci := 2) (v := .int (nI pl)) (C := RX2) (T := TX2) (N := 11) hx hb hg us_X2 hown hK.1 hP 0 XW_g0 rfl 1 (by decide) (hg _ gm_67) (fun _ h9 => h9) rfl dX2_letter_16 ?_
      refine lv_bipush (v := (nI 19)) hx hb dX2_letter_19 (by decide) ?_
      refine nv_icmp_lt (tgt := 27) hx hb dX2_letter_21 (by omega) (by omega) (by decide) (fun c_21 => ?_) (fun c_21 => ?_)
      · skip
        refine lv_aload_n hx hb dX2_letter_27 rfl (lv_at hl 0 rfl) ?_
        refine va_get (D := D) (ci := 2) (v := .ref (a 1)) (C := RX2) (T := TX2) (N := 11) hx hb hg us_X2 hown hK.1 hP 0 XW_g0 rfl 0 (by decide) (hg _ gm_66) (fun _ h9 => h9) rfl dX2_letter_28 ?_
        refine lv_aload_n hx hb dX2_letter_31 rfl (lv_at hl 0 rfl) ?_
        refine va_get (D := D) (ci := 2) (v := .int (nI pl)) (C := RX2) (T := TX2) (N := 11) hx hb hg us_X2 hown hK.1 hP 0 XW_g0 rfl 1 (by decide) (hg _ gm_67) (fun _ h9 => h9) rfl dX2_letter_32 ?_
        refine lv_iload_n hx hb dX2_letter_35 rfl (lv_at hl 1 rfl) ?_
        have hP_1 : va_P D vwCl [(a 1, .inr (1, [.ref (a 2)])), (a 2, .inl (cI, 19, .inl pg))] _ := P_s2 hP XW_g1 XW_g2
        have hC_2 : ([1, 2] : List Nat).map (fun q_ => (XW cI a pl n st ik td nd nh bs ktd knd knh kbs pg kd ag pa bo dm dn hh hn kag kpa kbo kdm kdn khh khn wb ps ty : va_W)[q_]?) = List.map some ([(a 1, .inr (1, [.ref (a 2)])), (a 2, .inl (cI, 19, .inl pg))] : va_W) := M_s2 XW_g1 XW_g2
        have hDc_2 : va_D (fun _ => True) [(a 1, .inr (1, [.ref (a 2)])), (a 2, .inl (cI, 19, .inl pg))] := (hD.sub (ws' := [(a 1, .inr (1, [.ref (a 2)])), (a 2, .inl (cI, 19, .inl pg))]) [1, 2] (by decide) hC_2).weaken (fun _ _ _ _ => trivial)
        refine wrVv (As := [.int (nI pl), .int x]) (rest := []) hx hb hml hown hg (c_X1_put l D cI cB aS (a 1) (a 2) 19 pg pl x hDc_2 (by first | assumption | omega) (by first | assumption | omega)) gm_137 vf_X1_put ⟨Nat.le_of_ble_eq_true rfl, Nat.le_of_ble_eq_true rfl⟩ ⟨rfl, rfl⟩ ⟨Nat.zero_le _, Nat.zero_le _⟩ (RP.preV hK hP_1 (q0 := 0) (ci := 1) rfl rfl) rfl hl.1 rfl (Nat.le_of_ble_eq_true rfl) dX2_letter_36 hS (inW_sub hD [1, 2] hC_2) (fun u_3 H1 locs hpo_3 hP1 hk1 hS => ?_)
        have hP : va_P D vwCl (XW cI a pl n st ik td nd nh bs ktd knd knh kbs (upd pg pl x) kd ag pa bo dm dn hh hn kag kpa kbo kdm kdn khh khn wb ps ty) H1 := P_eq (wjoin (wc := [(a 1, .inr (1, [.ref (a 2)])), (a 2, .inl (cI, 19, .inl pg))]) (w1 := [(a 1, .inr (1, [.ref (a 2)])), (a 2, .inl (cI, 19, .inl (upd pg pl x)))]) hP hD [1, 2] hC_2 rfl hP1 hk1) XW_wsets_2
        have hD : va_D A (XW cI a pl n st ik td nd nh bs ktd knd knh kbs (upd pg pl x) kd ag pa bo dm dn hh hn kag kpa kbo kdm kdn khh khn wb ps ty) := hD.addr (XW_addr.trans XW_addr.symm)
        clear hP1 hk1
        generalize H1 = H at hP hS ⊢
        refine lv_aload_n hx hb dX2_letter_39 rfl (lv_at hl 0 rfl) ?_
        refine lv_dup hx hb dX2_letter_40 rfl ?_
        refine va_get (D := D) (ci := 2) (v := .int (nI pl)) (C := RX2) (T := TX2) (N := 11) hx hb hg us_X2 hown hK.1 hP 0 XW_g0 rfl 1 (by decide) (hg _ gm_67) (fun _ h9 => h9) rfl dX2_letter_41 ?_
        refine lv_iconst (v := (nI 1)) hx hb dX2_letter_44 (by decide) ?_
        refine nv_iadd hx hb dX2_letter_45 ?_
        refine va_put (D := D) (ci := 2) (v := .int (nI (pl + 1))) (ty := .int) (C := RX2) (T := TX2) (N := 11) hx hb hg us_X2 tyX2 tyX2_ok nmX2 hown hK.1 hP hD hS 0 XW_g0 rfl 1 (by decide) (hg _ gm_67) (fun _ h9 => h9) rfl (by decide +kernel) rfl rfl (Nat.le_of_ble_eq_true rfl) dX2_letter_46 (fun H locs hP hD hS => ?_)
        have hP : va_P D vwCl (XW cI a (pl + 1) n st ik td nd nh bs ktd knd knh kbs (upd pg pl x) kd ag pa bo dm dn hh hn kag kpa kbo kdm kdn khh khn wb ps ty) H := P_eq hP XW_set_3
        have hD : va_D A (XW cI a (pl + 1) n st ik td nd nh bs ktd knd knh kbs (upd pg pl x) kd ag pa bo dm dn hh hn kag kpa kbo kdm kdn khh khn wb ps ty) := D_eq hD XW_set_3
        refine lv_aload_n hx hb dX2_letter_49 rfl (lv_at hl 0 rfl) ?_
        refine va_get (D := D) (ci := 2) (v := .int (nI (pl + 1))) (C := RX2) (T := TX2) (N := 11) hx hb hg us_X2 hown hK.1 hP 0 XW_g0 rfl 1 (by decide) (hg _ gm_67) (fun _ h9 => h9) rfl dX2_letter_50 ?_
        subst hAe
        exact wr_i (w1 := fun (u : (Nat → Int32) × Nat) => XW cI a u.2 n st ik td nd nh bs ktd knd knh kbs u.1 kd ag pa bo dm dn hh hn kag kpa kbo kdm kdn khh khn wb ps ty) hx hb hr hlocks hS (upd pg pl x, pl + 1) hP dX2_letter_53 (by unfold letF; rw [if_pos ⟨Int32.not_lt.mp c_3, c_9⟩, if_neg (by omega)])
      · skip
        refine lv_bipush (v := (-104)) hx hb dX2_letter_24 (by decide) ?_
        subst hAe
        exact wr_i (w1 := fun (u : (Nat → Int32) × Nat) => XW cI a u.2 n st ik td nd nh bs ktd knd knh kbs u.1 kd ag pa bo dm dn hh hn kag kpa kbo kdm kdn khh khn wb ps ty) hx hb hr hlocks hS (pg, pl) hP dX2_letter_26 (by unfold letF; rw [if_pos ⟨Int32.not_lt.mp c_3, c_9⟩, if_pos (by omega)])
    · skip
      refine lv_bipush (v := (-102)) hx hb dX2_letter_12 (by decide) ?_
      subst hAe
      exact wr_i (w1 := fun (u : (Nat → Int32) × Nat) => XW cI a u.2 n st ik td nd nh bs ktd knd knh kbs u.1 kd ag pa bo dm dn hh hn kag kpa kbo kdm kdn khh khn wb ps ty) hx hb hr hlocks hS (pg, pl) hP dX2_letter_14 ((if_neg (fun q => c_9 q.2)).symm)
abbrev rm_X2_birth : Room := { frames := 3, cells := 0, slots := 0, locals := 64 }
theorem XW_wsets_4 {cI : ClassId} {a : Nat → Nat} {pl n st : Nat} {ik : Int32} {td nd nh : Nat} {bs : Int32} {ktd knd knh : Nat} {kbs : Int32} {pg kd ag pa bo dm dn hh hn kag kpa kbo kdm kdn khh khn wb ps ty : Nat → Int32} {z0 : Nat → Int32} : wsets (XW cI a pl n st ik td nd nh bs ktd knd knh kbs pg kd ag pa bo dm dn hh hn kag kpa kbo kdm kdn khh khn wb ps ty) [0, 3, 4, 6, 13] [(a 0, .inr (2, [.ref (a 1), .int (nI pl), .int (nI n), .int (nI st), .ref (a 3), .ref (a 5), .ref (a 20), .int ik, .ref (a 35), .ref (a 37), .ref (a 39)])), (a 3, .inr (1, [.ref (a 4)])), (a 4, .inl (cI, 6, .inl kd)), (a 6, .inr (1, [.ref (a 13)])), (a 13, .inl (cI, 6, .inl z0))] = XW cI a pl n st ik td nd nh bs ktd knd knh kbs pg kd z0 pa bo dm dn hh hn kag kpa kbo kdm kdn khh khn wb ps ty := rfl
theorem XW_set_5 {cI : ClassId} {a : Nat → Nat} {pl n st : Nat} {ik : Int32} {td nd nh : Nat} {bs : Int32} {ktd knd knh : Nat} {kbs : Int32} {pg kd ag pa bo dm dn hh hn kag kpa kbo kdm kdn khh khn wb ps ty : Nat → Int32} {z0 : Int32} : List.set (XW cI a pl n st ik td nd nh bs ktd knd knh kbs pg kd ag pa bo dm dn hh hn kag kpa kbo kdm kdn khh khn wb ps ty) 5 (a 5, .inr (0, List.set [.int (nI td), .int bs, .int (nI nd), .int (nI nh), .ref (a 6), .ref (a 7), .ref (a 8), .ref (a 9), .ref (a 10), .ref (a 11), .ref (a 12)] 1 (.int z0))) = XW cI a pl n st ik td nd nh z0 ktd knd knh kbs pg kd ag pa bo dm dn hh hn kag kpa kbo kdm kdn khh khn wb ps ty := rfl
theorem vf_X1_add : vfacts RX1 yX1_add cX1_add 3 none 2 := ⟨⟨rfl, by decide +kernel, by decide +kernel, by decide +kernel⟩, gm_145, gm_146, gm_3, gm_147⟩
theorem XW_wsets_6 {cI : ClassId} {a : Nat → Nat} {pl n st : Nat} {ik : Int32} {td nd nh : Nat} {bs : Int32} {ktd knd knh : Nat} {kbs : Int32} {pg kd ag pa bo dm dn hh hn kag kpa kbo kdm kdn khh khn wb ps ty : Nat → Int32} {z0 : Nat → Int32} : wsets (XW cI a pl n st ik td nd nh bs ktd knd knh kbs pg kd ag pa bo dm dn hh hn kag kpa kbo kdm kdn khh khn wb ps ty) [8, 15] [(a 8, .inr (1, [.ref (a 15)])), (a 15, .inl (cI, 6, .inl z0))] = XW cI a pl n st ik td nd nh bs ktd knd knh kbs pg kd ag pa z0 dm dn hh hn kag kpa kbo kdm kdn khh khn wb ps ty := rfl
set_option maxRecDepth 100000 in
set_option maxHeartbeats 4000000 in
theorem c_X2_birth (l : Launch) (D : va_G) (cI cB : ClassId) (aS : Nat) (a : Nat → Nat) (pl n st : Nat) (ik : Int32) (td nd nh : Nat) (bs : Int32) (ktd knd knh : Nat) (kbs : Int32) (pg kd ag pa bo dm dn hh hn kag kpa kbo kdm kdn khh khn wb ps ty : Nat → Int32) (x : Int32) (hD0 : va_D (fun _ => True) (XW cI a pl n st ik td nd nh bs ktd knd knh kbs pg kd ag pa bo dm dn hh hn kag kpa kbo kdm kdn khh khn wb ps ty)) (hn6 : n ≤ 6) : Met l yX2_birth (mw yX2_birth cX2_birth 2 (some .int)) rm_X2_birth (RP D cI cB aS (XW cI a pl n st ik td nd nh bs ktd knd knh kbs pg kd ag pa bo dm dn hh hn kag kpa kbo kdm kdn khh khn wb ps ty) [.ref (a 0), .int x]) (wq mkI (XW cI a pl n st ik td nd nh bs ktd knd knh kbs pg kd ag pa bo dm dn hh hn kag kpa kbo kdm kdn khh khn wb ps ty) (fun (u : (Nat → Int32) × (Nat → Int32) × Int32) => XW cI a pl n st ik td nd nh u.2.2 ktd knd knh kbs pg kd u.1 pa u.2.1 dm dn hh hn kag kpa kbo kdm kdn khh khn wb ps ty) D (fun (r : Int32) (u : (Nat → Int32) × (Nat → Int32) × Int32) => (r, u) = birF n kd ag bo bs x)) 0 0 (inW (XW cI a pl n st ik td nd nh bs ktd knd knh kbs pg kd ag pa bo dm dn hh hn kag kpa kbo kdm kdn khh khn wb ps ty)) := by
  refine met_of (by decide) (Nat.le_of_ble_eq_true rfl) ?_
  intro p e s m below meth c ls hx hb hr hml hown hg hlocks hin hK hP hl
  have hown : s.vm.findClass RX2 = some m.cls := hown
  have hl : lv_has ls 2 [(0, .ref (a 0)), (1, .int x)] := hl
  have hD := hD0.here
  have hS0 : va_S (inW (XW cI a pl n st ik td nd nh bs ktd knd knh kbs pg kd ag pa bo dm dn hh hn kag kpa kbo kdm kdn khh khn wb ps ty)) s.heap s.heap [] := va_S.rf
  obtain ⟨H, hH⟩ : ∃ H, H = s.heap := ⟨_, rfl⟩
  have hS : va_S (inW (XW cI a pl n st ik td nd nh bs ktd knd knh kbs pg kd ag pa bo dm dn hh hn kag kpa kbo kdm kdn khh khn wb ps ty)) s.heap H [] := by rw [hH]; exact hS0
  clear hS0
  rw [← hH] at hP ⊢
  generalize hAe : inW (XW cI a pl n st ik td nd nh bs ktd knd knh kbs pg kd ag pa bo dm dn hh hn kag kpa kbo kdm kdn khh khn wb ps ty) = A at hD hS ⊢
  refine lv_aload_n hx hb dX2_birth_0 rfl (lv_at hl 0 rfl) ?_
  refine lv_iload_n hx hb dX2_birth_1 rfl (lv_at hl 1 rfl) ?_
  have hP_1 : va_P D vwCl [(a 0, .inr (2, [.ref (a 1), .int (nI pl), .int (nI n), .int (nI st), .ref (a 3), .ref (a 5), .ref (a 20), .int ik, .ref (a 35), .ref (a 37), .ref (a 39)]))] _ := P_s1 hP XW_g0
  refine rdV (As := [.int x]) (rest := []) hx hb hml hown hg (c_X2_isHouse l D cI cB aS (a 0) n ([.ref (a 1), .int (nI pl), .int (nI n), .int (nI st), .ref (a 3), .ref (a 5), .ref (a 20), .int ik, .ref (a 35), .ref (a 37), .ref (a 39)]) x rfl (by first | assumption | omega)) gm_92 vf_X2_isHouse ⟨Nat.le_of_ble_eq_true rfl, Nat.le_of_ble_eq_true rfl⟩ ⟨rfl, rfl⟩ ⟨Nat.zero_le _, Nat.zero_le _⟩ (RP.preV hK hP_1 (q0 := 0) (ci := 2) rfl rfl) rfl hl.1 rfl (Nat.le_of_ble_eq_true rfl) dX2_birth_2 ?_
  refine bv_if_ne (tgt := 11) hx hb dX2_birth_5 (by decide) (fun c_5 => ?_) (fun c_5 => ?_)
  · skip
    obtain ⟨j, qj, ex⟩ := hIn_of c_5 (by omega)
    subst ex
    refine lv_aload_n hx hb dX2_birth_11 rfl (lv_at hl 0 rfl) ?_
    refine va_get (D := D) (ci := 2) (v := .ref (a 3)) (C := RX2) (T := TX2) (N := 11) hx hb hg us_X2 hown hK.1 hP 0 XW_g0 rfl 4 (by decide) (hg _ gm_70) (fun _ h9 => h9) rfl dX2_birth_12 ?_
    refine lv_iload_n hx hb dX2_birth_15 rfl (lv_at hl 1 rfl) ?_
    have hP_2 : va_P D vwCl [(a 3, .inr (1, [.ref (a 4)])), (a 4, .inl (cI, 6, .inl kd))] _ := P_s2 hP XW_g3 XW_g4
    refine rdV (As := [.int (nI j)]) (rest := []) hx hb hml hown hg (c_X1_at l D cI cB aS (a 3) (a 4) 6 kd j (by first | assumption | omega) (by first | assumption | omega)) gm_95 vf_X1_at ⟨Nat.le_of_ble_eq_true rfl, Nat.le_of_ble_eq_true rfl⟩ ⟨rfl, rfl⟩ ⟨Nat.zero_le _, Nat.zero_le _⟩ (RP.preV hK hP_2 (q0 := 0) (ci := 1) rfl rfl) rfl hl.1 rfl (Nat.le_of_ble_eq_true rfl) dX2_birth_16 ?_
    refine lv_iconst (v := (nI 2)) hx hb dX2_birth_19 (by decide) ?_
    refine rdS (As := [.int (kd j), .int (nI 2)]) (rest := []) hx hb hml hown hg (c_X2_isA l D cI cB aS (kd j) (nI 2)) gm_127 sf_X2_isA ⟨Nat.le_of_ble_eq_true rfl, Nat.le_of_ble_eq_true rfl⟩ ⟨rfl, rfl⟩ ⟨Nat.zero_le _, Nat.zero_le _⟩ (RP.preS hK (fun k q h => by simp at h)) rfl hl.1 rfl (Nat.le_of_ble_eq_true rfl) dX2_birth_20 ?_
    rw [show ((bi (isAF (kd j) (nI 2))) : Int32) = (bi ((kd j = nI 2 ∨ kd j = nI 4))) from bi_c isA_2]
    refine bv_if_eq (tgt := 29) hx hb dX2_birth_23 (by decide) (fun c_23 => ?_) (fun c_23 => ?_)
    · skip
      refine lv_aload_n hx hb dX2_birth_29 rfl (lv_at hl 0 rfl) ?_
      refine lv_aload_n hx hb dX2_birth_30 rfl (lv_at hl 0 rfl) ?_
      refine va_get (D := D) (ci := 2) (v := .ref (a 5)) (C := RX2) (T := TX2) (N := 11) hx hb hg us_X2 hown hK.1 hP 0 XW_g0 rfl 5 (by decide) (hg _ gm_71) (fun _ h9 => h9) rfl dX2_birth_31 ?_
      refine va_getN (D := D) (ci := 0) (v := .ref (a 6)) (C := RX0) (T := TX0) (N := 11) hx hb hg us_X0 hown hK.1 hP 5 XW_g5 rfl 4 (by decide) (nl_76 hK) (fun _ h9 => h9) rfl dX2_birth_34 ?_
      refine lv_iload_n hx hb dX2_birth_37 rfl (lv_at hl 1 rfl) ?_
      have hP_3 : va_P D vwCl [(a 0, .inr (2, [.ref (a 1), .int (nI pl), .int (nI n), .int (nI st), .ref (a 3), .ref (a 5), .ref (a 20), .int ik, .ref (a 35), .ref (a 37), .ref (a 39)])), (a 3, .inr (1, [.ref (a 4)])), (a 4, .inl (cI, 6, .inl kd)), (a 6, .inr (1, [.ref (a 13)])), (a 13, .inl (cI, 6, .inl ag))] _ := P_s5 hP XW_g0 XW_g3 XW_g4 XW_g6 XW_g13
      have hC_4 : ([0, 3, 4, 6, 13] : List Nat).map (fun q_ => (XW cI a pl n st ik td nd nh bs ktd knd knh kbs pg kd ag pa bo dm dn hh hn kag kpa kbo kdm kdn khh khn wb ps ty : va_W)[q_]?) = List.map some ([(a 0, .inr (2, [.ref (a 1), .int (nI pl), .int (nI n), .int (nI st), .ref (a 3), .ref (a 5), .ref (a 20), .int ik, .ref (a 35), .ref (a 37), .ref (a 39)])), (a 3, .inr (1, [.ref (a 4)])), (a 4, .inl (cI, 6, .inl kd)), (a 6, .inr (1, [.ref (a 13)])), (a 13, .inl (cI, 6, .inl ag))] : va_W) := M_s5 XW_g0 XW_g3 XW_g4 XW_g6 XW_g13
      have hDc_4 : va_D (fun _ => True) [(a 0, .inr (2, [.ref (a 1), .int (nI pl), .int (nI n), .int (nI st), .ref (a 3), .ref (a 5), .ref (a 20), .int ik, .ref (a 35), .ref (a 37), .ref (a 39)])), (a 3, .inr (1, [.ref (a 4)])), (a 4, .inl (cI, 6, .inl kd)), (a 6, .inr (1, [.ref (a 13)])), (a 13, .inl (cI, 6, .inl ag))] := (hD.sub (ws' := [(a 0, .inr (2, [.ref (a 1), .int (nI pl), .int (nI n), .int (nI st), .ref (a 3), .ref (a 5), .ref (a 20), .int ik, .ref (a 35), .ref (a 37), .ref (a 39)])), (a 3, .inr (1, [.ref (a 4)])), (a 4, .inl (cI, 6, .inl kd)), (a 6, .inr (1, [.ref (a 13)])), (a 13, .inl (cI, 6, .inl ag))]) [0, 3, 4, 6, 13] (by decide) hC_4).weaken (fun _ _ _ _ => trivial)
      refine wrVv (As := [.ref (a 6), .int (nI j)]) (rest := []) hx hb hml hown hg (c_X2_bear l D cI cB aS (a 0) (a 3) (a 4) (a 6) (a 13) n ([.ref (a 1), .int (nI pl), .int (nI n), .int (nI st), .ref (a 3), .ref (a 5), .ref (a 20), .int ik, .ref (a 35), .ref (a 37), .ref (a 39)]) kd ag j hDc_4 rfl rfl (by first | assumption | omega) (by first | assumption | omega)) gm_134 vf_X2_bear ⟨Nat.le_of_ble_eq_true rfl, Nat.le_of_ble_eq_true rfl⟩ ⟨rfl, rfl⟩ ⟨Nat.zero_le _, Nat.zero_le _⟩ (RP.preV hK hP_3 (q0 := 0) (ci := 2) rfl rfl) rfl hl.1 rfl (Nat.le_of_ble_eq_true rfl) dX2_birth_38 hS (inW_sub hD [0, 3, 4, 6, 13] hC_4) (fun u_5 H1 locs hpo_5 hP1 hk1 hS => ?_)
      have hP : va_P D vwCl (XW cI a pl n st ik td nd nh bs ktd knd knh kbs pg kd (bearF n kd ag j) pa bo dm dn hh hn kag kpa kbo kdm kdn khh khn wb ps ty) H1 := P_eq (wjoin (wc := [(a 0, .inr (2, [.ref (a 1), .int (nI pl), .int (nI n), .int (nI st), .ref (a 3), .ref (a 5), .ref (a 20), .int ik, .ref (a 35), .ref (a 37), .ref (a 39)])), (a 3, .inr (1, [.ref (a 4)])), (a 4, .inl (cI, 6, .inl kd)), (a 6, .inr (1, [.ref (a 13)])), (a 13, .inl (cI, 6, .inl ag))]) (w1 := [(a 0, .inr (2, [.ref (a 1), .int (nI pl), .int (nI n), .int (nI st), .ref (a 3), .ref (a 5), .ref (a 20), .int ik, .ref (a 35), .ref (a 37), .ref (a 39)])), (a 3, .inr (1, [.ref (a 4)])), (a 4, .inl (cI, 6, .inl kd)), (a 6, .inr (1, [.ref (a 13)])), (a 13, .inl (cI, 6, .inl (bearF n kd ag j)))]) hP hD [0, 3, 4, 6, 13] hC_4 rfl hP1 hk1) XW_wsets_4
      have hD : va_D A (XW cI a pl n st ik td nd nh bs ktd knd knh kbs pg kd (bearF n kd ag j) pa bo dm dn hh hn kag kpa kbo kdm kdn khh khn wb ps ty) := hD.addr (XW_addr.trans XW_addr.symm)
      clear hP1 hk1
      generalize H1 = H at hP hS ⊢
      refine lv_aload_n hx hb dX2_birth_41 rfl (lv_at hl 0 rfl) ?_
      refine va_get (D := D) (ci := 2) (v := .ref (a 5)) (C := RX2) (T := TX2) (N := 11) hx hb hg us_X2 hown hK.1 hP 0 XW_g0 rfl 5 (by decide) (hg _ gm_71) (fun _ h9 => h9) rfl dX2_birth_42 ?_
      refine lv_dup hx hb dX2_birth_45 rfl ?_
      refine va_getN (D := D) (ci := 0) (v := .int bs) (C := RX0) (T := TX0) (N := 11) hx hb hg us_X0 hown hK.1 hP 5 XW_g5 rfl 1 (by decide) (nl_103 hK) (fun _ h9 => h9) rfl dX2_birth_46 ?_
      refine lv_iconst (v := (nI 1)) hx hb dX2_birth_49 (by decide) ?_
      refine lv_iadd hx hb dX2_birth_50 ?_
      refine va_putN (D := D) (ci := 0) (v := .int (bs + (nI 1))) (ty := .int) (C := RX0) (T := TX0) (N := 11) hx hb hg us_X0 tyX0 tyX0_ok nmX0 hown hK.1 hP hD hS 5 XW_g5 rfl 1 (by decide) (nl_103 hK) (fun _ h9 => h9) rfl (by decide +kernel) rfl rfl (Nat.le_of_ble_eq_true rfl) dX2_birth_51 (fun H locs hP hD hS => ?_)
      have hP : va_P D vwCl (XW cI a pl n st ik td nd nh (bs + (nI 1)) ktd knd knh kbs pg kd (bearF n kd ag j) pa bo dm dn hh hn kag kpa kbo kdm kdn khh khn wb ps ty) H := P_eq hP XW_set_5
      have hD : va_D A (XW cI a pl n st ik td nd nh (bs + (nI 1)) ktd knd knh kbs pg kd (bearF n kd ag j) pa bo dm dn hh hn kag kpa kbo kdm kdn khh khn wb ps ty) := D_eq hD XW_set_5
      refine lv_aload_n hx hb dX2_birth_54 rfl (lv_at hl 0 rfl) ?_
      refine va_get (D := D) (ci := 2) (v := .ref (a 5)) (C := RX2) (T := TX2) (N := 11) hx hb hg us_X2 hown hK.1 hP 0 XW_g0 rfl 5 (by decide) (hg _ gm_71) (fun _ h9 => h9) rfl dX2_birth_55 ?_
      refine va_getN (D := D) (ci := 0) (v := .ref (a 8)) (C := RX0) (T := TX0) (N := 11) hx hb hg us_X0 hown hK.1 hP 5 XW_g5 rfl 6 (by decide) (nl_86 hK) (fun _ h9 => h9) rfl dX2_birth_58 ?_
      refine lv_iload_n hx hb dX2_birth_61 rfl (lv_at hl 1 rfl) ?_
      refine lv_iconst (v := (nI 1)) hx hb dX2_birth_62 (by decide) ?_
      have hP_6 : va_P D vwCl [(a 8, .inr (1, [.ref (a 15)])), (a 15, .inl (cI, 6, .inl bo))] _ := P_s2 hP XW_g8 XW_g15
      have hC_7 : ([8, 15] : List Nat).map (fun q_ => (XW cI a pl n st ik td nd nh (bs + (nI 1)) ktd knd knh kbs pg kd (bearF n kd ag j) pa bo dm dn hh hn kag kpa kbo kdm kdn khh khn wb ps ty : va_W)[q_]?) = List.map some ([(a 8, .inr (1, [.ref (a 15)])), (a 15, .inl (cI, 6, .inl bo))] : va_W) := M_s2 XW_g8 XW_g15
      have hDc_7 : va_D (fun _ => True) [(a 8, .inr (1, [.ref (a 15)])), (a 15, .inl (cI, 6, .inl bo))] := (hD.sub (ws' := [(a 8, .inr (1, [.ref (a 15)])), (a 15, .inl (cI, 6, .inl bo))]) [8, 15] (by decide) hC_7).weaken (fun _ _ _ _ => trivial)
      refine wrVv (As := [.int (nI j), .int (nI 1)]) (rest := []) hx hb hml hown hg (c_X1_add l D cI cB aS (a 8) (a 15) 6 bo j (nI 1) hDc_7 (by first | assumption | omega) (by first | assumption | omega)) gm_144 vf_X1_add ⟨Nat.le_of_ble_eq_true rfl, Nat.le_of_ble_eq_true rfl⟩ ⟨rfl, rfl⟩ ⟨Nat.zero_le _, Nat.zero_le _⟩ (RP.preV hK hP_6 (q0 := 0) (ci := 1) rfl rfl) rfl hl.1 rfl (Nat.le_of_ble_eq_true rfl) dX2_birth_63 hS (inW_sub hD [8, 15] hC_7) (fun u_8 H1 locs hpo_8 hP1 hk1 hS => ?_)
      have hP : va_P D vwCl (XW cI a pl n st ik td nd nh (bs + (nI 1)) ktd knd knh kbs pg kd (bearF n kd ag j) pa (upd bo j (bo j + (nI 1))) dm dn hh hn kag kpa kbo kdm kdn khh khn wb ps ty) H1 := P_eq (wjoin (wc := [(a 8, .inr (1, [.ref (a 15)])), (a 15, .inl (cI, 6, .inl bo))]) (w1 := [(a 8, .inr (1, [.ref (a 15)])), (a 15, .inl (cI, 6, .inl (upd bo j (bo j + (nI 1)))))]) hP hD [8, 15] hC_7 rfl hP1 hk1) XW_wsets_6
      have hD : va_D A (XW cI a pl n st ik td nd nh (bs + (nI 1)) ktd knd knh kbs pg kd (bearF n kd ag j) pa (upd bo j (bo j + (nI 1))) dm dn hh hn kag kpa kbo kdm kdn khh khn wb ps ty) := hD.addr (XW_addr.trans XW_addr.symm)
      clear hP1 hk1
      generalize H1 = H at hP hS ⊢
      refine lv_aload_n hx hb dX2_birth_66 rfl (lv_at hl 0 rfl) ?_
      refine lv_iload_n hx hb dX2_birth_67 rfl (lv_at hl 1 rfl) ?_
      have hP_9 : va_P D vwCl [(a 0, .inr (2, [.ref (a 1), .int (nI pl), .int (nI n), .int (nI st), .ref (a 3), .ref (a 5), .ref (a 20), .int ik, .ref (a 35), .ref (a 37), .ref (a 39)])), (a 3, .inr (1, [.ref (a 4)])), (a 4, .inl (cI, 6, .inl kd))] _ := P_s3 hP XW_g0 XW_g3 XW_g4
      refine rdV (As := [.int (nI j)]) (rest := []) hx hb hml hown hg (c_X2_lendsACradle l D cI cB aS (a 0) (a 3) (a 4) n ([.ref (a 1), .int (nI pl), .int (nI n), .int (nI st), .ref (a 3), .ref (a 5), .ref (a 20), .int ik, .ref (a 35), .ref (a 37), .ref (a 39)]) kd j rfl rfl (by first | assumption | omega) (by first | assumption | omega)) gm_141 vf_X2_lendsACradle ⟨Nat.le_of_ble_eq_true rfl, Nat.le_of_ble_eq_true rfl⟩ ⟨rfl, rfl⟩ ⟨Nat.zero_le _, Nat.zero_le _⟩ (RP.preV hK hP_9 (q0 := 0) (ci := 2) rfl rfl) rfl hl.1 rfl (Nat.le_of_ble_eq_true rfl) dX2_birth_68 ?_
      refine bv_if_ne (tgt := 76) hx hb dX2_birth_71 (by decide) (fun c_71 => ?_) (fun c_71 => ?_)
      · skip
        refine lv_aload_n hx hb dX2_birth_76 rfl (lv_at hl 0 rfl) ?_
        refine va_get (D := D) (ci := 2) (v := .ref (a 5)) (C := RX2) (T := TX2) (N := 11) hx hb hg us_X2 hown hK.1 hP 0 XW_g0 rfl 5 (by decide) (hg _ gm_71) (fun _ h9 => h9) rfl dX2_birth_77 ?_
        refine va_getN (D := D) (ci := 0) (v := .ref (a 8)) (C := RX0) (T := TX0) (N := 11) hx hb hg us_X0 hown hK.1 hP 5 XW_g5 rfl 6 (by decide) (nl_86 hK) (fun _ h9 => h9) rfl dX2_birth_80 ?_
        refine lv_iload_n hx hb dX2_birth_83 rfl (lv_at hl 1 rfl) ?_
        refine lv_iconst (v := (nI 1)) hx hb dX2_birth_84 (by decide) ?_
        refine nv_iadd hx hb dX2_birth_85 ?_
        refine lv_iconst (v := (nI 1)) hx hb dX2_birth_86 (by decide) ?_
        have hP_10 : va_P D vwCl [(a 8, .inr (1, [.ref (a 15)])), (a 15, .inl (cI, 6, .inl (upd bo j (bo j + (nI 1)))))] _ := P_s2 hP XW_g8 XW_g15
        have hC_11 : ([8, 15] : List Nat).map (fun q_ => (XW cI a pl n st ik td nd nh (bs + (nI 1)) ktd knd knh kbs pg kd (bearF n kd ag j) pa (upd bo j (bo j + (nI 1))) dm dn hh hn kag kpa kbo kdm kdn khh khn wb ps ty : va_W)[q_]?) = List.map some ([(a 8, .inr (1, [.ref (a 15)])), (a 15, .inl (cI, 6, .inl (upd bo j (bo j + (nI 1)))))] : va_W) := M_s2 XW_g8 XW_g15
        have hDc_11 : va_D (fun _ => True) [(a 8, .inr (1, [.ref (a 15)])), (a 15, .inl (cI, 6, .inl (upd bo j (bo j + (nI 1)))))] := (hD.sub (ws' := [(a 8, .inr (1, [.ref (a 15)])), (a 15, .inl (cI, 6, .inl (upd bo j (bo j + (nI 1)))))]) [8, 15] (by decide) hC_11).weaken (fun _ _ _ _ => trivial)
        refine wrVv (As := [.int (nI (j + 1)), .int (nI 1)]) (rest := []) hx hb hml hown hg (c_X1_add l D cI cB aS (a 8) (a 15) 6 (upd bo j (bo j + (nI 1))) (j + 1) (nI 1) hDc_11 (by first | assumption | omega) (by have := c_71.1; omega)) gm_144 vf_X1_add ⟨Nat.le_of_ble_eq_true rfl, Nat.le_of_ble_eq_true rfl⟩ ⟨rfl, rfl⟩ ⟨Nat.zero_le _, Nat.zero_le _⟩ (RP.preV hK hP_10 (q0 := 0) (ci := 1) rfl rfl) rfl hl.1 rfl (Nat.le_of_ble_eq_true rfl) dX2_birth_87 hS (inW_sub hD [8, 15] hC_11) (fun u_12 H1 locs hpo_12 hP1 hk1 hS => ?_)
        have hP : va_P D vwCl (XW cI a pl n st ik td nd nh (bs + (nI 1)) ktd knd knh kbs pg kd (bearF n kd ag j) pa (upd (upd bo j (bo j + (nI 1))) (j + 1) ((upd bo j (bo j + (nI 1))) (j + 1) + (nI 1))) dm dn hh hn kag kpa kbo kdm kdn khh khn wb ps ty) H1 := P_eq (wjoin (wc := [(a 8, .inr (1, [.ref (a 15)])), (a 15, .inl (cI, 6, .inl (upd bo j (bo j + (nI 1)))))]) (w1 := [(a 8, .inr (1, [.ref (a 15)])), (a 15, .inl (cI, 6, .inl (upd (upd bo j (bo j + (nI 1))) (j + 1) ((upd bo j (bo j + (nI 1))) (j + 1) + (nI 1)))))]) hP hD [8, 15] hC_11 rfl hP1 hk1) XW_wsets_6
        have hD : va_D A (XW cI a pl n st ik td nd nh (bs + (nI 1)) ktd knd knh kbs pg kd (bearF n kd ag j) pa (upd (upd bo j (bo j + (nI 1))) (j + 1) ((upd bo j (bo j + (nI 1))) (j + 1) + (nI 1))) dm dn hh hn kag kpa kbo kdm kdn khh khn wb ps ty) := hD.addr (XW_addr.trans XW_addr.symm)
        clear hP1 hk1
        generalize H1 = H at hP hS ⊢
        refine lv_iconst (v := (nI 2)) hx hb dX2_birth_90 (by decide) ?_
        subst hAe
        exact wr_i (w1 := fun (u : (Nat → Int32) × (Nat → Int32) × Int32) => XW cI a pl n st ik td nd nh u.2.2 ktd knd knh kbs pg kd u.1 pa u.2.1 dm dn hh hn kag kpa kbo kdm kdn khh khn wb ps ty) hx hb hr hlocks hS (bearF n kd ag j, bornF n kd bo j, bs + nI 1) (by have e := born_t (bo := bo) c_71; rw [← e] at hP; exact hP) dX2_birth_91 (by rw [bir_ok qj hn6 c_23, if_pos c_71])
      · skip
        refine lv_iconst (v := (nI 1)) hx hb dX2_birth_74 (by decide) ?_
        subst hAe
        exact wr_i (w1 := fun (u : (Nat → Int32) × (Nat → Int32) × Int32) => XW cI a pl n st ik td nd nh u.2.2 ktd knd knh kbs pg kd u.1 pa u.2.1 dm dn hh hn kag kpa kbo kdm kdn khh khn wb ps ty) hx hb hr hlocks hS (bearF n kd ag j, bornF n kd bo j, bs + nI 1) (by have e := born_f (bo := bo) c_71; rw [← e] at hP; exact hP) dX2_birth_75 (by rw [bir_ok qj hn6 c_23, if_neg c_71])
    · skip
      refine lv_bipush (v := (-103)) hx hb dX2_birth_26 (by decide) ?_
      subst hAe
      exact wr_i (w1 := fun (u : (Nat → Int32) × (Nat → Int32) × Int32) => XW cI a pl n st ik td nd nh u.2.2 ktd knd knh kbs pg kd u.1 pa u.2.1 dm dn hh hn kag kpa kbo kdm kdn khh khn wb ps ty) hx hb hr hlocks hS (ag, bo, bs) hP dX2_birth_28 ((bir_2 qj hn6 (fun q => q c_23)).symm)
  · skip
    refine lv_bipush (v := (-101)) hx hb dX2_birth_8 (by decide) ?_
    subst hAe
    exact wr_i (w1 := fun (u : (Nat → Int32) × (Nat → Int32) × Int32) => XW cI a pl n st ik td nd nh u.2.2 ktd knd knh kbs pg kd u.1 pa u.2.1 dm dn hh hn kag kpa kbo kdm kdn khh khn wb ps ty) hx hb hr hlocks hS (ag, bo, bs) hP dX2_birth_10 ((bir_1 c_5).symm)
abbrev rm_X2_day : Room := { frames := 2, cells := 0, slots := 0, locals := 44 }
theorem vf_X2_growOlder : vfacts RX2 yX2_growOlder cX2_growOlder 3 none 1 := ⟨⟨rfl, by decide +kernel, by decide +kernel, by decide +kernel⟩, gm_155, gm_365, gm_2, gm_156⟩
theorem XW_set_7 {cI : ClassId} {a : Nat → Nat} {pl n st : Nat} {ik : Int32} {td nd nh : Nat} {bs : Int32} {ktd knd knh : Nat} {kbs : Int32} {pg kd ag pa bo dm dn hh hn kag kpa kbo kdm kdn khh khn wb ps ty : Nat → Int32} {z0 : Nat} : List.set (XW cI a pl n st ik td nd nh bs ktd knd knh kbs pg kd ag pa bo dm dn hh hn kag kpa kbo kdm kdn khh khn wb ps ty) 5 (a 5, .inr (0, List.set [.int (nI td), .int bs, .int (nI nd), .int (nI nh), .ref (a 6), .ref (a 7), .ref (a 8), .ref (a 9), .ref (a 10), .ref (a 11), .ref (a 12)] 0 (.int (nI z0)))) = XW cI a pl n st ik z0 nd nh bs ktd knd knh kbs pg kd ag pa bo dm dn hh hn kag kpa kbo kdm kdn khh khn wb ps ty := rfl
theorem XW_wsets_8 {cI : ClassId} {a : Nat → Nat} {pl n st : Nat} {ik : Int32} {td nd nh : Nat} {bs : Int32} {ktd knd knh : Nat} {kbs : Int32} {pg kd ag pa bo dm dn hh hn kag kpa kbo kdm kdn khh khn wb ps ty : Nat → Int32} {z0 : Nat → Int32} : wsets (XW cI a pl n st ik td nd nh bs ktd knd knh kbs pg kd ag pa bo dm dn hh hn kag kpa kbo kdm kdn khh khn wb ps ty) [7, 14] [(a 7, .inr (1, [.ref (a 14)])), (a 14, .inl (cI, 180, .inl z0))] = XW cI a pl n st ik td nd nh bs ktd knd knh kbs pg kd ag z0 bo dm dn hh hn kag kpa kbo kdm kdn khh khn wb ps ty := rfl
set_option maxRecDepth 100000 in
set_option maxHeartbeats 4000000 in
theorem c_X2_day (l : Launch) (D : va_G) (cI cB : ClassId) (aS : Nat) (a : Nat → Nat) (pl n st : Nat) (ik : Int32) (td nd nh : Nat) (bs : Int32) (ktd knd knh : Nat) (kbs : Int32) (pg kd ag pa bo dm dn hh hn kag kpa kbo kdm kdn khh khn wb ps ty : Nat → Int32)  (hD0 : va_D (fun _ => True) (XW cI a pl n st ik td nd nh bs ktd knd knh kbs pg kd ag pa bo dm dn hh hn kag kpa kbo kdm kdn khh khn wb ps ty)) (hn6 : n ≤ 6) (qt : td ≤ 30) : Met l yX2_day (mw yX2_day cX2_day 2 (some .int)) rm_X2_day (RP D cI cB aS (XW cI a pl n st ik td nd nh bs ktd knd knh kbs pg kd ag pa bo dm dn hh hn kag kpa kbo kdm kdn khh khn wb ps ty) [.ref (a 0)]) (wq mkI (XW cI a pl n st ik td nd nh bs ktd knd knh kbs pg kd ag pa bo dm dn hh hn kag kpa kbo kdm kdn khh khn wb ps ty) (fun (u : (Nat → Int32) × (Nat → Int32) × Nat) => XW cI a pl n st ik u.2.2 nd nh bs ktd knd knh kbs pg kd u.1 u.2.1 bo dm dn hh hn kag kpa kbo kdm kdn khh khn wb ps ty) D (fun (r : Int32) (u : (Nat → Int32) × (Nat → Int32) × Nat) => (r, u) = dayF n td kd ag pa)) 0 0 (inW (XW cI a pl n st ik td nd nh bs ktd knd knh kbs pg kd ag pa bo dm dn hh hn kag kpa kbo kdm kdn khh khn wb ps ty)) := by
  refine met_of (by decide) (Nat.le_of_ble_eq_true rfl) ?_
  intro p e s m below meth c ls hx hb hr hml hown hg hlocks hin hK hP hl
  have hown : s.vm.findClass RX2 = some m.cls := hown
  have hl : lv_has ls 2 [(0, .ref (a 0))] := hl
  have hD := hD0.here
  have hS0 : va_S (inW (XW cI a pl n st ik td nd nh bs ktd knd knh kbs pg kd ag pa bo dm dn hh hn kag kpa kbo kdm kdn khh khn wb ps ty)) s.heap s.heap [] := va_S.rf
  obtain ⟨H, hH⟩ : ∃ H, H = s.heap := ⟨_, rfl⟩
  have hS : va_S (inW (XW cI a pl n st ik td nd nh bs ktd knd knh kbs pg kd ag pa bo dm dn hh hn kag kpa kbo kdm kdn khh khn wb ps ty)) s.heap H [] := by rw [hH]; exact hS0
  clear hS0
  rw [← hH] at hP ⊢
  generalize hAe : inW (XW cI a pl n st ik td nd nh bs ktd knd knh kbs pg kd ag pa bo dm dn hh hn kag kpa kbo kdm kdn khh khn wb ps ty) = A at hD hS ⊢
  refine lv_aload_n hx hb dX2_day_0 rfl (lv_at hl 0 rfl) ?_
  refine va_get (D := D) (ci := 2) (v := .int (nI n)) (C := RX2) (T := TX2) (N := 11) hx hb hg us_X2 hown hK.1 hP 0 XW_g0 rfl 2 (by decide) (hg _ gm_68) (fun _ h9 => h9) rfl dX2_day_1 ?_
  refine nv_if_ne (tgt := 10) hx hb dX2_day_4 (by omega) (by decide) (fun c_4 => ?_) (fun c_4 => ?_)
  · skip
    refine lv_aload_n hx hb dX2_day_10 rfl (lv_at hl 0 rfl) ?_
    refine va_get (D := D) (ci := 2) (v := .ref (a 5)) (C := RX2) (T := TX2) (N := 11) hx hb hg us_X2 hown hK.1 hP 0 XW_g0 rfl 5 (by decide) (hg _ gm_71) (fun _ h9 => h9) rfl dX2_day_11 ?_
    refine va_getN (D := D) (ci := 0) (v := .int (nI td)) (C := RX0) (T := TX0) (N := 11) hx hb hg us_X0 hown hK.1 hP 5 XW_g5 rfl 0 (by decide) (nl_112 hK) (fun _ h9 => h9) rfl dX2_day_14 ?_
    refine lv_bipush (v := (nI 30)) hx hb dX2_day_17 (by decide) ?_
    refine nv_icmp_lt (tgt := 25) hx hb dX2_day_19 (by omega) (by omega) (by decide) (fun c_19 => ?_) (fun c_19 => ?_)
    · skip
      refine lv_iconst (v := (nI 0)) hx hb dX2_day_25 (by decide) ?_
      refine lv_istore_n (lv' := [(1, .int (nI 0)), (0, .ref (a 0))]) hx hb dX2_day_26 rfl hl (by decide) rfl (fun ls hl => ?_)
      -- loop at 27
      refine loopW (nL := 2) (S := Unit) (B := n) (I := fun i u => True) (lv := fun i u => [(0, .ref (a 0)), (1, .int (nI i))]) (wf := fun i u => XW cI a pl n st ik td nd nh bs ktd knd knh kbs pg kd ag (paF ag pa td i) bo dm dn hh hn kag kpa kbo kdm kdn khh khn wb ps ty) 0 () (Nat.zero_le _) (trivial) (lv_sub hl [1, 0] rfl) (by show va_P D vwCl (XW cI a pl n st ik td nd nh bs ktd knd knh kbs pg kd ag (paF ag pa td 0) bo dm dn hh hn kag kpa kbo kdm kdn khh khn wb ps ty) H; rw [pa_0]; exact hP) (hD.addr (XW_addr.trans XW_addr.symm)) hS (fun i u ls H locs hj hI hl hP hD hS ih => ?_)
      have hP : va_P D vwCl (XW cI a pl n st ik td nd nh bs ktd knd knh kbs pg kd ag (paF ag pa td i) bo dm dn hh hn kag kpa kbo kdm kdn khh khn wb ps ty) H := hP
      have hD : va_D A (XW cI a pl n st ik td nd nh bs ktd knd knh kbs pg kd ag (paF ag pa td i) bo dm dn hh hn kag kpa kbo kdm kdn khh khn wb ps ty) := hD
      have hl : lv_has ls 2 [(0, .ref (a 0)), (1, .int (nI i))] := hl
      have ih_27 := ih
      refine lv_iload_n hx hb dX2_day_27 rfl (lv_at hl 1 rfl) ?_
      refine lv_aload_n hx hb dX2_day_28 rfl (lv_at hl 0 rfl) ?_
      refine va_get (D := D) (ci := 2) (v := .int (nI n)) (C := RX2) (T := TX2) (N := 11) hx hb hg us_X2 hown hK.1 hP 0 XW_g0 rfl 2 (by decide) (hg _ gm_68) (fun _ h9 => h9) rfl dX2_day_29 ?_
      refine nv_icmp_ge (tgt := 73) hx hb dX2_day_32 (by omega) (by omega) (by decide) (fun c_32 => ?_) (fun c_32 => ?_)
      · skip
        refine lv_aload_n hx hb dX2_day_73 rfl (lv_at hl 0 rfl) ?_
        refine lv_aload_n hx hb dX2_day_74 rfl (lv_at hl 0 rfl) ?_
        refine va_get (D := D) (ci := 2) (v := .ref (a 5)) (C := RX2) (T := TX2) (N := 11) hx hb hg us_X2 hown hK.1 hP 0 XW_g0 rfl 5 (by decide) (hg _ gm_71) (fun _ h9 => h9) rfl dX2_day_75 ?_
        refine va_getN (D := D) (ci := 0) (v := .ref (a 6)) (C := RX0) (T := TX0) (N := 11) hx hb hg us_X0 hown hK.1 hP 5 XW_g5 rfl 4 (by decide) (nl_76 hK) (fun _ h9 => h9) rfl dX2_day_78 ?_
        have hP_1 : va_P D vwCl [(a 0, .inr (2, [.ref (a 1), .int (nI pl), .int (nI n), .int (nI st), .ref (a 3), .ref (a 5), .ref (a 20), .int ik, .ref (a 35), .ref (a 37), .ref (a 39)])), (a 3, .inr (1, [.ref (a 4)])), (a 4, .inl (cI, 6, .inl kd)), (a 6, .inr (1, [.ref (a 13)])), (a 13, .inl (cI, 6, .inl ag))] _ := P_s5 hP XW_g0 XW_g3 XW_g4 XW_g6 XW_g13
        have hC_2 : ([0, 3, 4, 6, 13] : List Nat).map (fun q_ => (XW cI a pl n st ik td nd nh bs ktd knd knh kbs pg kd ag (paF ag pa td i) bo dm dn hh hn kag kpa kbo kdm kdn khh khn wb ps ty : va_W)[q_]?) = List.map some ([(a 0, .inr (2, [.ref (a 1), .int (nI pl), .int (nI n), .int (nI st), .ref (a 3), .ref (a 5), .ref (a 20), .int ik, .ref (a 35), .ref (a 37), .ref (a 39)])), (a 3, .inr (1, [.ref (a 4)])), (a 4, .inl (cI, 6, .inl kd)), (a 6, .inr (1, [.ref (a 13)])), (a 13, .inl (cI, 6, .inl ag))] : va_W) := M_s5 XW_g0 XW_g3 XW_g4 XW_g6 XW_g13
        have hDc_2 : va_D (fun _ => True) [(a 0, .inr (2, [.ref (a 1), .int (nI pl), .int (nI n), .int (nI st), .ref (a 3), .ref (a 5), .ref (a 20), .int ik, .ref (a 35), .ref (a 37), .ref (a 39)])), (a 3, .inr (1, [.ref (a 4)])), (a 4, .inl (cI, 6, .inl kd)), (a 6, .inr (1, [.ref (a 13)])), (a 13, .inl (cI, 6, .inl ag))] := (hD.sub (ws' := [(a 0, .inr (2, [.ref (a 1), .int (nI pl), .int (nI n), .int (nI st), .ref (a 3), .ref (a 5), .ref (a 20), .int ik, .ref (a 35), .ref (a 37), .ref (a 39)])), (a 3, .inr (1, [.ref (a 4)])), (a 4, .inl (cI, 6, .inl kd)), (a 6, .inr (1, [.ref (a 13)])), (a 13, .inl (cI, 6, .inl ag))]) [0, 3, 4, 6, 13] (by decide) hC_2).weaken (fun _ _ _ _ => trivial)
        refine wrVv (As := [.ref (a 6)]) (rest := []) hx hb hml hown hg (c_X2_growOlder l D cI cB aS (a 0) (a 3) (a 4) (a 6) (a 13) n ([.ref (a 1), .int (nI pl), .int (nI n), .int (nI st), .ref (a 3), .ref (a 5), .ref (a 20), .int ik, .ref (a 35), .ref (a 37), .ref (a 39)]) kd ag hDc_2 rfl rfl (by first | assumption | omega)) gm_154 vf_X2_growOlder ⟨Nat.le_of_ble_eq_true rfl, Nat.le_of_ble_eq_true rfl⟩ ⟨rfl, rfl⟩ ⟨Nat.zero_le _, Nat.zero_le _⟩ (RP.preV hK hP_1 (q0 := 0) (ci := 2) rfl rfl) rfl hl.1 rfl (Nat.le_of_ble_eq_true rfl) dX2_day_81 hS (inW_sub hD [0, 3, 4, 6, 13] hC_2) (fun u_3 H1 locs hpo_3 hP1 hk1 hS => ?_)
        have hP : va_P D vwCl (XW cI a pl n st ik td nd nh bs ktd knd knh kbs pg kd (groF kd ag n) (paF ag pa td i) bo dm dn hh hn kag kpa kbo kdm kdn khh khn wb ps ty) H1 := P_eq (wjoin (wc := [(a 0, .inr (2, [.ref (a 1), .int (nI pl), .int (nI n), .int (nI st), .ref (a 3), .ref (a 5), .ref (a 20), .int ik, .ref (a 35), .ref (a 37), .ref (a 39)])), (a 3, .inr (1, [.ref (a 4)])), (a 4, .inl (cI, 6, .inl kd)), (a 6, .inr (1, [.ref (a 13)])), (a 13, .inl (cI, 6, .inl ag))]) (w1 := [(a 0, .inr (2, [.ref (a 1), .int (nI pl), .int (nI n), .int (nI st), .ref (a 3), .ref (a 5), .ref (a 20), .int ik, .ref (a 35), .ref (a 37), .ref (a 39)])), (a 3, .inr (1, [.ref (a 4)])), (a 4, .inl (cI, 6, .inl kd)), (a 6, .inr (1, [.ref (a 13)])), (a 13, .inl (cI, 6, .inl (groF kd ag n)))]) hP hD [0, 3, 4, 6, 13] hC_2 rfl hP1 hk1) XW_wsets_4
        have hD : va_D A (XW cI a pl n st ik td nd nh bs ktd knd knh kbs pg kd (groF kd ag n) (paF ag pa td i) bo dm dn hh hn kag kpa kbo kdm kdn khh khn wb ps ty) := hD.addr (XW_addr.trans XW_addr.symm)
        clear hP1 hk1
        generalize H1 = H at hP hS ⊢
        refine lv_aload_n hx hb dX2_day_84 rfl (lv_at hl 0 rfl) ?_
        refine va_get (D := D) (ci := 2) (v := .ref (a 5)) (C := RX2) (T := TX2) (N := 11) hx hb hg us_X2 hown hK.1 hP 0 XW_g0 rfl 5 (by decide) (hg _ gm_71) (fun _ h9 => h9) rfl dX2_day_85 ?_
        refine lv_dup hx hb dX2_day_88 rfl ?_
        refine va_getN (D := D) (ci := 0) (v := .int (nI td)) (C := RX0) (T := TX0) (N := 11) hx hb hg us_X0 hown hK.1 hP 5 XW_g5 rfl 0 (by decide) (nl_112 hK) (fun _ h9 => h9) rfl dX2_day_89 ?_
        refine lv_iconst (v := (nI 1)) hx hb dX2_day_92 (by decide) ?_
        refine nv_iadd hx hb dX2_day_93 ?_
        refine va_putN (D := D) (ci := 0) (v := .int (nI (td + 1))) (ty := .int) (C := RX0) (T := TX0) (N := 11) hx hb hg us_X0 tyX0 tyX0_ok nmX0 hown hK.1 hP hD hS 5 XW_g5 rfl 0 (by decide) (nl_112 hK) (fun _ h9 => h9) rfl (by decide +kernel) rfl rfl (Nat.le_of_ble_eq_true rfl) dX2_day_94 (fun H locs hP hD hS => ?_)
        have hP : va_P D vwCl (XW cI a pl n st ik (td + 1) nd nh bs ktd knd knh kbs pg kd (groF kd ag n) (paF ag pa td i) bo dm dn hh hn kag kpa kbo kdm kdn khh khn wb ps ty) H := P_eq hP XW_set_7
        have hD : va_D A (XW cI a pl n st ik (td + 1) nd nh bs ktd knd knh kbs pg kd (groF kd ag n) (paF ag pa td i) bo dm dn hh hn kag kpa kbo kdm kdn khh khn wb ps ty) := D_eq hD XW_set_7
        refine lv_aload_n hx hb dX2_day_97 rfl (lv_at hl 0 rfl) ?_
        refine va_get (D := D) (ci := 2) (v := .ref (a 5)) (C := RX2) (T := TX2) (N := 11) hx hb hg us_X2 hown hK.1 hP 0 XW_g0 rfl 5 (by decide) (hg _ gm_71) (fun _ h9 => h9) rfl dX2_day_98 ?_
        refine va_getN (D := D) (ci := 0) (v := .int (nI (td + 1))) (C := RX0) (T := TX0) (N := 11) hx hb hg us_X0 hown hK.1 hP 5 XW_g5 rfl 0 (by decide) (nl_112 hK) (fun _ h9 => h9) rfl dX2_day_101 ?_
        subst hAe
        exact wr_i (w1 := fun (u : (Nat → Int32) × (Nat → Int32) × Nat) => XW cI a pl n st ik u.2.2 nd nh bs ktd knd knh kbs pg kd u.1 u.2.1 bo dm dn hh hn kag kpa kbo kdm kdn khh khn wb ps ty) hx hb hr hlocks hS (groF kd ag n, paF ag pa td n, td + 1) (by rw [show i = n by omega] at hP; exact hP) dX2_day_104 (by unfold dayF; rw [if_neg c_4, if_neg (by omega)])
      · skip
        refine lv_aload_n hx hb dX2_day_35 rfl (lv_at hl 0 rfl) ?_
        refine va_get (D := D) (ci := 2) (v := .ref (a 5)) (C := RX2) (T := TX2) (N := 11) hx hb hg us_X2 hown hK.1 hP 0 XW_g0 rfl 5 (by decide) (hg _ gm_71) (fun _ h9 => h9) rfl dX2_day_36 ?_
        refine va_getN (D := D) (ci := 0) (v := .ref (a 7)) (C := RX0) (T := TX0) (N := 11) hx hb hg us_X0 hown hK.1 hP 5 XW_g5 rfl 5 (by decide) (nl_115 hK) (fun _ h9 => h9) rfl dX2_day_39 ?_
        refine lv_iload_n hx hb dX2_day_42 rfl (lv_at hl 1 rfl) ?_
        refine lv_aload_n hx hb dX2_day_43 rfl (lv_at hl 0 rfl) ?_
        refine va_get (D := D) (ci := 2) (v := .ref (a 5)) (C := RX2) (T := TX2) (N := 11) hx hb hg us_X2 hown hK.1 hP 0 XW_g0 rfl 5 (by decide) (hg _ gm_71) (fun _ h9 => h9) rfl dX2_day_44 ?_
        refine va_getN (D := D) (ci := 0) (v := .int (nI td)) (C := RX0) (T := TX0) (N := 11) hx hb hg us_X0 hown hK.1 hP 5 XW_g5 rfl 0 (by decide) (nl_112 hK) (fun _ h9 => h9) rfl dX2_day_47 ?_
        refine rdS (As := [.int (nI i), .int (nI td)]) (rest := [.ref (a 7)]) hx hb hml hown hg (c_X2_cellOf l D cI cB aS i td) gm_117 sf_X2_cellOf ⟨Nat.le_of_ble_eq_true rfl, Nat.le_of_ble_eq_true rfl⟩ ⟨rfl, rfl⟩ ⟨Nat.zero_le _, Nat.zero_le _⟩ (RP.preS hK (fun k q h => by simp at h)) rfl hl.1 rfl (Nat.le_of_ble_eq_true rfl) dX2_day_50 ?_
        refine lv_aload_n hx hb dX2_day_53 rfl (lv_at hl 0 rfl) ?_
        refine va_get (D := D) (ci := 2) (v := .ref (a 5)) (C := RX2) (T := TX2) (N := 11) hx hb hg us_X2 hown hK.1 hP 0 XW_g0 rfl 5 (by decide) (hg _ gm_71) (fun _ h9 => h9) rfl dX2_day_54 ?_
        refine va_getN (D := D) (ci := 0) (v := .ref (a 6)) (C := RX0) (T := TX0) (N := 11) hx hb hg us_X0 hown hK.1 hP 5 XW_g5 rfl 4 (by decide) (nl_76 hK) (fun _ h9 => h9) rfl dX2_day_57 ?_
        refine lv_iload_n hx hb dX2_day_60 rfl (lv_at hl 1 rfl) ?_
        have hP_4 : va_P D vwCl [(a 6, .inr (1, [.ref (a 13)])), (a 13, .inl (cI, 6, .inl ag))] _ := P_s2 hP XW_g6 XW_g13
        refine rdV (As := [.int (nI i)]) (rest := [.int (nI (td * 6 + i)), .ref (a 7)]) hx hb hml hown hg (c_X1_at l D cI cB aS (a 6) (a 13) 6 ag i (by first | assumption | omega) (by first | assumption | omega)) gm_95 vf_X1_at ⟨Nat.le_of_ble_eq_true rfl, Nat.le_of_ble_eq_true rfl⟩ ⟨rfl, rfl⟩ ⟨Nat.zero_le _, Nat.zero_le _⟩ (RP.preV hK hP_4 (q0 := 0) (ci := 1) rfl rfl) rfl hl.1 rfl (Nat.le_of_ble_eq_true rfl) dX2_day_61 ?_
        have hP_5 : va_P D vwCl [(a 7, .inr (1, [.ref (a 14)])), (a 14, .inl (cI, 180, .inl (paF ag pa td i)))] _ := P_s2 hP XW_g7 XW_g14
        have hC_6 : ([7, 14] : List Nat).map (fun q_ => (XW cI a pl n st ik td nd nh bs ktd knd knh kbs pg kd ag (paF ag pa td i) bo dm dn hh hn kag kpa kbo kdm kdn khh khn wb ps ty : va_W)[q_]?) = List.map some ([(a 7, .inr (1, [.ref (a 14)])), (a 14, .inl (cI, 180, .inl (paF ag pa td i)))] : va_W) := M_s2 XW_g7 XW_g14
        have hDc_6 : va_D (fun _ => True) [(a 7, .inr (1, [.ref (a 14)])), (a 14, .inl (cI, 180, .inl (paF ag pa td i)))] := (hD.sub (ws' := [(a 7, .inr (1, [.ref (a 14)])), (a 14, .inl (cI, 180, .inl (paF ag pa td i)))]) [7, 14] (by decide) hC_6).weaken (fun _ _ _ _ => trivial)
        refine wrVv (As := [.int (nI (td * 6 + i)), .int (ag i)]) (rest := []) hx hb hml hown hg (c_X1_put l D cI cB aS (a 7) (a 14) 180 (paF ag pa td i) (td * 6 + i) (ag i) hDc_6 (by first | assumption | omega) (by first | assumption | omega)) gm_137 vf_X1_put ⟨Nat.le_of_ble_eq_true rfl, Nat.le_of_ble_eq_true rfl⟩ ⟨rfl, rfl⟩ ⟨Nat.zero_le _, Nat.zero_le _⟩ (RP.preV hK hP_5 (q0 := 0) (ci := 1) rfl rfl) rfl hl.1 rfl (Nat.le_of_ble_eq_true rfl) dX2_day_64 hS (inW_sub hD [7, 14] hC_6) (fun u_7 H1 locs hpo_7 hP1 hk1 hS => ?_)
        have hP : va_P D vwCl (XW cI a pl n st ik td nd nh bs ktd knd knh kbs pg kd ag (upd (paF ag pa td i) (td * 6 + i) (ag i)) bo dm dn hh hn kag kpa kbo kdm kdn khh khn wb ps ty) H1 := P_eq (wjoin (wc := [(a 7, .inr (1, [.ref (a 14)])), (a 14, .inl (cI, 180, .inl (paF ag pa td i)))]) (w1 := [(a 7, .inr (1, [.ref (a 14)])), (a 14, .inl (cI, 180, .inl (upd (paF ag pa td i) (td * 6 + i) (ag i))))]) hP hD [7, 14] hC_6 rfl hP1 hk1) XW_wsets_8
        have hD : va_D A (XW cI a pl n st ik td nd nh bs ktd knd knh kbs pg kd ag (upd (paF ag pa td i) (td * 6 + i) (ag i)) bo dm dn hh hn kag kpa kbo kdm kdn khh khn wb ps ty) := hD.addr (XW_addr.trans XW_addr.symm)
        clear hP1 hk1
        generalize H1 = H at hP hS ⊢
        have e_8 : upd (paF ag pa td i) (td * 6 + i) (ag i) = paF ag pa td (i + 1) := pa_s (by omega)
        rw [e_8] at hP hD
        have hP : va_P D vwCl (XW cI a pl n st ik td nd nh bs ktd knd knh kbs pg kd ag (paF ag pa td (i + 1)) bo dm dn hh hn kag kpa kbo kdm kdn khh khn wb ps ty) H := hP
        have hD : va_D A (XW cI a pl n st ik td nd nh bs ktd knd knh kbs pg kd ag (paF ag pa td (i + 1)) bo dm dn hh hn kag kpa kbo kdm kdn khh khn wb ps ty) := hD
        refine lv_iinc (v := (nI (i + 1))) (lv' := [(1, .int (nI (i + 1))), (0, .ref (a 0))]) hx hb dX2_day_67 hl (k := 1) rfl (nI_i1 _) (by decide) rfl (fun ls hl => ?_)
        refine lv_goto (tgt := 27) hx hb dX2_day_70 (by decide) ?_
        exact ih_27 () _ _ _ (by omega) (trivial) (lv_sub hl [1, 0] rfl) hP (hD.addr (XW_addr.trans XW_addr.symm)) hS
    · skip
      refine lv_bipush (v := (-104)) hx hb dX2_day_22 (by decide) ?_
      subst hAe
      exact wr_i (w1 := fun (u : (Nat → Int32) × (Nat → Int32) × Nat) => XW cI a pl n st ik u.2.2 nd nh bs ktd knd knh kbs pg kd u.1 u.2.1 bo dm dn hh hn kag kpa kbo kdm kdn khh khn wb ps ty) hx hb hr hlocks hS (ag, pa, td) hP dX2_day_24 (by unfold dayF; rw [if_neg c_4, if_pos (by omega)])
  · skip
    refine lv_bipush (v := (-103)) hx hb dX2_day_7 (by decide) ?_
    subst hAe
    exact wr_i (w1 := fun (u : (Nat → Int32) × (Nat → Int32) × Nat) => XW cI a pl n st ik u.2.2 nd nh bs ktd knd knh kbs pg kd u.1 u.2.1 bo dm dn hh hn kag kpa kbo kdm kdn khh khn wb ps ty) hx hb hr hlocks hS (ag, pa, td) hP dX2_day_9 ((if_pos c_4).symm)
abbrev rm_X2_debt : Room := { frames := 1, cells := 0, slots := 0, locals := 22 }
theorem XW_wsets_9 {cI : ClassId} {a : Nat → Nat} {pl n st : Nat} {ik : Int32} {td nd nh : Nat} {bs : Int32} {ktd knd knh : Nat} {kbs : Int32} {pg kd ag pa bo dm dn hh hn kag kpa kbo kdm kdn khh khn wb ps ty : Nat → Int32} {z0 : Nat → Int32} : wsets (XW cI a pl n st ik td nd nh bs ktd knd knh kbs pg kd ag pa bo dm dn hh hn kag kpa kbo kdm kdn khh khn wb ps ty) [9, 16] [(a 9, .inr (1, [.ref (a 16)])), (a 16, .inl (cI, 6, .inl z0))] = XW cI a pl n st ik td nd nh bs ktd knd knh kbs pg kd ag pa bo z0 dn hh hn kag kpa kbo kdm kdn khh khn wb ps ty := rfl
theorem XW_wsets_10 {cI : ClassId} {a : Nat → Nat} {pl n st : Nat} {ik : Int32} {td nd nh : Nat} {bs : Int32} {ktd knd knh : Nat} {kbs : Int32} {pg kd ag pa bo dm dn hh hn kag kpa kbo kdm kdn khh khn wb ps ty : Nat → Int32} {z0 : Nat → Int32} : wsets (XW cI a pl n st ik td nd nh bs ktd knd knh kbs pg kd ag pa bo dm dn hh hn kag kpa kbo kdm kdn khh khn wb ps ty) [10, 17] [(a 10, .inr (1, [.ref (a 17)])), (a 17, .inl (cI, 6, .inl z0))] = XW cI a pl n st ik td nd nh bs ktd knd knh kbs pg kd ag pa bo dm z0 hh hn kag kpa kbo kdm kdn khh khn wb ps ty := rfl
set_option maxRecDepth 100000 in
set_option maxHeartbeats 4000000 in
theorem c_X2_debt (l : Launch) (D : va_G) (cI cB : ClassId) (aS : Nat) (a : Nat → Nat) (pl n st : Nat) (ik : Int32) (td nd nh : Nat) (bs : Int32) (ktd knd knh : Nat) (kbs : Int32) (pg kd ag pa bo dm dn hh hn kag kpa kbo kdm kdn khh khn wb ps ty : Nat → Int32) (x y : Int32) (hD0 : va_D (fun _ => True) (XW cI a pl n st ik td nd nh bs ktd knd knh kbs pg kd ag pa bo dm dn hh hn kag kpa kbo kdm kdn khh khn wb ps ty)) (qnd : nd ≤ 6) (hn6 : n ≤ 6) : Met l yX2_debt (mw yX2_debt cX2_debt 3 (some .int)) rm_X2_debt (RP D cI cB aS (XW cI a pl n st ik td nd nh bs ktd knd knh kbs pg kd ag pa bo dm dn hh hn kag kpa kbo kdm kdn khh khn wb ps ty) [.ref (a 0), .int x, .int y]) (wq mkI (XW cI a pl n st ik td nd nh bs ktd knd knh kbs pg kd ag pa bo dm dn hh hn kag kpa kbo kdm kdn khh khn wb ps ty) (fun (u : (Nat → Int32) × (Nat → Int32) × Nat) => XW cI a pl n st ik td u.2.2 nh bs ktd knd knh kbs pg kd ag pa bo u.1 u.2.1 hh hn kag kpa kbo kdm kdn khh khn wb ps ty) D (fun (r : Int32) (u : (Nat → Int32) × (Nat → Int32) × Nat) => (r, u) = debF n nd dm dn x y)) 0 0 (inW (XW cI a pl n st ik td nd nh bs ktd knd knh kbs pg kd ag pa bo dm dn hh hn kag kpa kbo kdm kdn khh khn wb ps ty)) := by
  refine met_of (by decide) (Nat.le_of_ble_eq_true rfl) ?_
  intro p e s m below meth c ls hx hb hr hml hown hg hlocks hin hK hP hl
  have hown : s.vm.findClass RX2 = some m.cls := hown
  have hl : lv_has ls 3 [(0, .ref (a 0)), (1, .int x), (2, .int y)] := hl
  have hD := hD0.here
  have hS0 : va_S (inW (XW cI a pl n st ik td nd nh bs ktd knd knh kbs pg kd ag pa bo dm dn hh hn kag kpa kbo kdm kdn khh khn wb ps ty)) s.heap s.heap [] := va_S.rf
  obtain ⟨H, hH⟩ : ∃ H, H = s.heap := ⟨_, rfl⟩
  have hS : va_S (inW (XW cI a pl n st ik td nd nh bs ktd knd knh kbs pg kd ag pa bo dm dn hh hn kag kpa kbo kdm kdn khh khn wb ps ty)) s.heap H [] := by rw [hH]; exact hS0
  clear hS0
  rw [← hH] at hP ⊢
  generalize hAe : inW (XW cI a pl n st ik td nd nh bs ktd knd knh kbs pg kd ag pa bo dm dn hh hn kag kpa kbo kdm kdn khh khn wb ps ty) = A at hD hS ⊢
  refine lv_iload_n hx hb dX2_debt_0 rfl (lv_at hl 1 rfl) ?_
  refine lv_iconst (v := (nI 1)) hx hb dX2_debt_1 (by decide) ?_
  refine lv_icmp_lt (tgt := 21) hx hb dX2_debt_2 (by decide) (fun c_2 => ?_) (fun c_2 => ?_)
  · skip
    refine lv_bipush (v := (-102)) hx hb dX2_debt_21 (by decide) ?_
    subst hAe
    exact wr_i (w1 := fun (u : (Nat → Int32) × (Nat → Int32) × Nat) => XW cI a pl n st ik td u.2.2 nh bs ktd knd knh kbs pg kd ag pa bo u.1 u.2.1 hh hn kag kpa kbo kdm kdn khh khn wb ps ty) hx hb hr hlocks hS (dm, dn, nd) hP dX2_debt_23 ((if_neg (fun q => Int32.not_lt.mpr q.1.1 c_2)).symm)
  · skip
    refine lv_iload_n hx hb dX2_debt_5 rfl (lv_at hl 1 rfl) ?_
    refine lv_bipush (v := (nI 9)) hx hb dX2_debt_6 (by decide) ?_
    refine lv_icmp_gt (tgt := 21) hx hb dX2_debt_8 (by decide) (fun c_8 => ?_) (fun c_8 => ?_)
    · skip
      refine lv_bipush (v := (-102)) hx hb dX2_debt_21 (by decide) ?_
      subst hAe
      exact wr_i (w1 := fun (u : (Nat → Int32) × (Nat → Int32) × Nat) => XW cI a pl n st ik td u.2.2 nh bs ktd knd knh kbs pg kd ag pa bo u.1 u.2.1 hh hn kag kpa kbo kdm kdn khh khn wb ps ty) hx hb hr hlocks hS (dm, dn, nd) hP dX2_debt_23 ((if_neg (fun q => Int32.not_lt.mpr q.1.2 c_8)).symm)
    · skip
      refine lv_iload_n hx hb dX2_debt_11 rfl (lv_at hl 2 rfl) ?_
      refine lv_if_lt (tgt := 21) hx hb dX2_debt_12 (by decide) (fun c_12 => ?_) (fun c_12 => ?_)
      · skip
        refine lv_bipush (v := (-102)) hx hb dX2_debt_21 (by decide) ?_
        subst hAe
        exact wr_i (w1 := fun (u : (Nat → Int32) × (Nat → Int32) × Nat) => XW cI a pl n st ik td u.2.2 nh bs ktd knd knh kbs pg kd ag pa bo u.1 u.2.1 hh hn kag kpa kbo kdm kdn khh khn wb ps ty) hx hb hr hlocks hS (dm, dn, nd) hP dX2_debt_23 ((if_neg (fun q => Int32.not_lt.mpr q.2.1 c_12)).symm)
      · skip
        refine lv_iload_n hx hb dX2_debt_15 rfl (lv_at hl 2 rfl) ?_
        refine lv_bipush (v := (nI 99)) hx hb dX2_debt_16 (by decide) ?_
        refine lv_icmp_le (tgt := 24) hx hb dX2_debt_18 (by decide) (fun c_18 => ?_) (fun c_18 => ?_)
        · skip
          refine lv_aload_n hx hb dX2_debt_24 rfl (lv_at hl 0 rfl) ?_
          refine va_get (D := D) (ci := 2) (v := .int (nI n)) (C := RX2) (T := TX2) (N := 11) hx hb hg us_X2 hown hK.1 hP 0 XW_g0 rfl 2 (by decide) (hg _ gm_68) (fun _ h9 => h9) rfl dX2_debt_25 ?_
          refine nv_if_ne (tgt := 34) hx hb dX2_debt_28 (by omega) (by decide) (fun c_28 => ?_) (fun c_28 => ?_)
          · skip
            refine lv_aload_n hx hb dX2_debt_34 rfl (lv_at hl 0 rfl) ?_
            refine va_get (D := D) (ci := 2) (v := .ref (a 5)) (C := RX2) (T := TX2) (N := 11) hx hb hg us_X2 hown hK.1 hP 0 XW_g0 rfl 5 (by decide) (hg _ gm_71) (fun _ h9 => h9) rfl dX2_debt_35 ?_
            refine va_getN (D := D) (ci := 0) (v := .int (nI nd)) (C := RX0) (T := TX0) (N := 11) hx hb hg us_X0 hown hK.1 hP 5 XW_g5 rfl 2 (by decide) (nl_139 hK) (fun _ h9 => h9) rfl dX2_debt_38 ?_
            refine lv_bipush (v := (nI 6)) hx hb dX2_debt_41 (by decide) ?_
            refine nv_icmp_lt (tgt := 49) hx hb dX2_debt_43 (by omega) (by omega) (by decide) (fun c_43 => ?_) (fun c_43 => ?_)
            · skip
              refine lv_aload_n hx hb dX2_debt_49 rfl (lv_at hl 0 rfl) ?_
              refine va_get (D := D) (ci := 2) (v := .ref (a 5)) (C := RX2) (T := TX2) (N := 11) hx hb hg us_X2 hown hK.1 hP 0 XW_g0 rfl 5 (by decide) (hg _ gm_71) (fun _ h9 => h9) rfl dX2_debt_50 ?_
              refine va_getN (D := D) (ci := 0) (v := .ref (a 9)) (C := RX0) (T := TX0) (N := 11) hx hb hg us_X0 hown hK.1 hP 5 XW_g5 rfl 7 (by decide) (nl_142 hK) (fun _ h9 => h9) rfl dX2_debt_53 ?_
              refine lv_aload_n hx hb dX2_debt_56 rfl (lv_at hl 0 rfl) ?_
              refine va_get (D := D) (ci := 2) (v := .ref (a 5)) (C := RX2) (T := TX2) (N := 11) hx hb hg us_X2 hown hK.1 hP 0 XW_g0 rfl 5 (by decide) (hg _ gm_71) (fun _ h9 => h9) rfl dX2_debt_57 ?_
              refine va_getN (D := D) (ci := 0) (v := .int (nI nd)) (C := RX0) (T := TX0) (N := 11) hx hb hg us_X0 hown hK.1 hP 5 XW_g5 rfl 2 (by decide) (nl_139 hK) (fun _ h9 => h9) rfl dX2_debt_60 ?_
              refine lv_iload_n hx hb dX2_debt_63 rfl (lv_at hl 1 rfl) ?_
              have hP_1 : va_P D vwCl [(a 9, .inr (1, [.ref (a 16)])), (a 16, .inl (cI, 6, .inl dm))] _ := P_s2 hP XW_g9 XW_g16
              have hC_2 : ([9, 16] : List Nat).map (fun q_ => (XW cI a pl n st ik td nd nh bs ktd knd knh kbs pg kd ag pa bo dm dn hh hn kag kpa kbo kdm kdn khh khn wb ps ty : va_W)[q_]?) = List.map some ([(a 9, .inr (1, [.ref (a 16)])), (a 16, .inl (cI, 6, .inl dm))] : va_W) := M_s2 XW_g9 XW_g16
              have hDc_2 : va_D (fun _ => True) [(a 9, .inr (1, [.ref (a 16)])), (a 16, .inl (cI, 6, .inl dm))] := (hD.sub (ws' := [(a 9, .inr (1, [.ref (a 16)])), (a 16, .inl (cI, 6, .inl dm))]) [9, 16] (by decide) hC_2).weaken (fun _ _ _ _ => trivial)
              refine wrVv (As := [.int (nI nd), .int x]) (rest := []) hx hb hml hown hg (c_X1_put l D cI cB aS (a 9) (a 16) 6 dm nd x hDc_2 (by first | assumption | omega) (by first | assumption | omega)) gm_137 vf_X1_put ⟨Nat.le_of_ble_eq_true rfl, Nat.le_of_ble_eq_true rfl⟩ ⟨rfl, rfl⟩ ⟨Nat.zero_le _, Nat.zero_le _⟩ (RP.preV hK hP_1 (q0 := 0) (ci := 1) rfl rfl) rfl hl.1 rfl (Nat.le_of_ble_eq_true rfl) dX2_debt_64 hS (inW_sub hD [9, 16] hC_2) (fun u_3 H1 locs hpo_3 hP1 hk1 hS => ?_)
              have hP : va_P D vwCl (XW cI a pl n st ik td nd nh bs ktd knd knh kbs pg kd ag pa bo (upd dm nd x) dn hh hn kag kpa kbo kdm kdn khh khn wb ps ty) H1 := P_eq (wjoin (wc := [(a 9, .inr (1, [.ref (a 16)])), (a 16, .inl (cI, 6, .inl dm))]) (w1 := [(a 9, .inr (1, [.ref (a 16)])), (a 16, .inl (cI, 6, .inl (upd dm nd x)))]) hP hD [9, 16] hC_2 rfl hP1 hk1) XW_wsets_9
              have hD : va_D A (XW cI a pl n st ik td nd nh bs ktd knd knh kbs pg kd ag pa bo (upd dm nd x) dn hh hn kag kpa kbo kdm kdn khh khn wb ps ty) := hD.addr (XW_addr.trans XW_addr.symm)
              clear hP1 hk1
              generalize H1 = H at hP hS ⊢
              refine lv_aload_n hx hb dX2_debt_67 rfl (lv_at hl 0 rfl) ?_
              refine va_get (D := D) (ci := 2) (v := .ref (a 5)) (C := RX2) (T := TX2) (N := 11) hx hb hg us_X2 hown hK.1 hP 0 XW_g0 rfl 5 (by decide) (hg _ gm_71) (fun _ h9 => h9) rfl dX2_debt_68 ?_
              refine va_getN (D := D) (ci := 0) (v := .ref (a 10)) (C := RX0) (T := TX0) (N := 11) hx hb hg us_X0 hown hK.1 hP 5 XW_g5 rfl 8 (by decide) (nl_145 hK) (fun _ h9 => h9) rfl dX2_debt_71 ?_
              refine lv_aload_n hx hb dX2_debt_74 rfl (lv_at hl 0 rfl) ?_
              refine va_get (D := D) (ci := 2) (v := .ref (a 5)) (C := RX2) (T := TX2) (N := 11) hx hb hg us_X2 hown hK.1 hP 0 XW_g0 rfl 5 (by decide) (hg _ gm_71) (fun _ h9 => h9) rfl dX2_debt_75 ?_
              refine va_getN (D := D) (ci := 0) (v := .int (nI nd)) (C := RX0) (T := TX0) (N := 11) hx hb hg us_X0 hown hK.1 hP 5 XW_g5 rfl 2 (by decide) (nl_139 hK) (fun _ h9 => h9) rfl dX2_debt_78 ?_
              refine lv_iload_n hx hb dX2_debt_81 rfl (lv_at hl 2 rfl) ?_
              have hP_4 : va_P D vwCl [(a 10, .inr (1, [.ref (a 17)])), (a 17, .inl (cI, 6, .inl dn))] _ := P_s2 hP XW_g10 XW_g17
              have hC_5 : ([10, 17] : List Nat).map (fun q_ => (XW cI a pl n st ik td nd nh bs ktd knd knh kbs pg kd ag pa bo (upd dm nd x) dn hh hn kag kpa kbo kdm kdn khh khn wb ps ty : va_W)[q_]?) = List.map some ([(a 10, .inr (1, [.ref (a 17)])), (a 17, .inl (cI, 6, .inl dn))] : va_W) := M_s2 XW_g10 XW_g17
              have hDc_5 : va_D (fun _ => True) [(a 10, .inr (1, [.ref (a 17)])), (a 17, .inl (cI, 6, .inl dn))] := (hD.sub (ws' := [(a 10, .inr (1, [.ref (a 17)])), (a 17, .inl (cI, 6, .inl dn))]) [10, 17] (by decide) hC_5).weaken (fun _ _ _ _ => trivial)
              refine wrVv (As := [.int (nI nd), .int y]) (rest := []) hx hb hml hown hg (c_X1_put l D cI cB aS (a 10) (a 17) 6 dn nd y hDc_5 (by first | assumption | omega) (by first | assumption | omega)) gm_137 vf_X1_put ⟨Nat.le_of_ble_eq_true rfl, Nat.le_of_ble_eq_true rfl⟩ ⟨rfl, rfl⟩ ⟨Nat.zero_le _, Nat.zero_le _⟩ (RP.preV hK hP_4 (q0 := 0) (ci := 1) rfl rfl) rfl hl.1 rfl (Nat.le_of_ble_eq_true rfl) dX2_debt_82 hS (inW_sub hD [10, 17] hC_5) (fun u_6 H1 locs hpo_6 hP1 hk1 hS => ?_)
              have hP : va_P D vwCl (XW cI a pl n st ik td nd nh bs ktd knd knh kbs pg kd ag pa bo (upd dm nd x) (upd dn nd y) hh hn kag kpa kbo kdm kdn khh khn wb ps ty) H1 := P_eq (wjoin (wc := [(a 10, .inr (1, [.ref (a 17)])), (a 17, .inl (cI, 6, .inl dn))]) (w1 := [(a 10, .inr (1, [.ref (a 17)])), (a 17, .inl (cI, 6, .inl (upd dn nd y)))]) hP hD [10, 17] hC_5 rfl hP1 hk1) XW_wsets_10
              have hD : va_D A (XW cI a pl n st ik td nd nh bs ktd knd knh kbs pg kd ag pa bo (upd dm nd x) (upd dn nd y) hh hn kag kpa kbo kdm kdn khh khn wb ps ty) := hD.addr (XW_addr.trans XW_addr.symm)
              clear hP1 hk1
              generalize H1 = H at hP hS ⊢
              refine lv_aload_n hx hb dX2_debt_85 rfl (lv_at hl 0 rfl) ?_
              refine va_get (D := D) (ci := 2) (v := .ref (a 5)) (C := RX2) (T := TX2) (N := 11) hx hb hg us_X2 hown hK.1 hP 0 XW_g0 rfl 5 (by decide) (hg _ gm_71) (fun _ h9 => h9) rfl dX2_debt_86 ?_
              refine lv_dup hx hb dX2_debt_89 rfl ?_
              refine va_getN (D := D) (ci := 0) (v := .int (nI nd)) (C := RX0) (T := TX0) (N := 11) hx hb hg us_X0 hown hK.1 hP 5 XW_g5 rfl 2 (by decide) (nl_139 hK) (fun _ h9 => h9) rfl dX2_debt_90 ?_
              refine lv_iconst (v := (nI 1)) hx hb dX2_debt_93 (by decide) ?_
              refine nv_iadd hx hb dX2_debt_94 ?_
              refine va_putN (D := D) (ci := 0) (v := .int (nI (nd + 1))) (ty := .int) (C := RX0) (T := TX0) (N := 11) hx hb hg us_X0 tyX0 tyX0_ok nmX0 hown hK.1 hP hD hS 5 XW_g5 rfl 2 (by decide) (nl_139 hK) (fun _ h9 => h9) rfl (by decide +kernel) rfl rfl (Nat.le_of_ble_eq_true rfl) dX2_debt_95 (fun H locs hP hD hS => ?_)
              have hP : va_P D vwCl (XW cI a pl n st ik td (nd + 1) nh bs ktd knd knh kbs pg kd ag pa bo (upd dm nd x) (upd dn nd y) hh hn kag kpa kbo kdm kdn khh khn wb ps ty) H := P_eq hP XW_set_1
              have hD : va_D A (XW cI a pl n st ik td (nd + 1) nh bs ktd knd knh kbs pg kd ag pa bo (upd dm nd x) (upd dn nd y) hh hn kag kpa kbo kdm kdn khh khn wb ps ty) := D_eq hD XW_set_1
              refine lv_aload_n hx hb dX2_debt_98 rfl (lv_at hl 0 rfl) ?_
              refine va_get (D := D) (ci := 2) (v := .ref (a 5)) (C := RX2) (T := TX2) (N := 11) hx hb hg us_X2 hown hK.1 hP 0 XW_g0 rfl 5 (by decide) (hg _ gm_71) (fun _ h9 => h9) rfl dX2_debt_99 ?_
              refine va_getN (D := D) (ci := 0) (v := .int (nI (nd + 1))) (C := RX0) (T := TX0) (N := 11) hx hb hg us_X0 hown hK.1 hP 5 XW_g5 rfl 2 (by decide) (nl_139 hK) (fun _ h9 => h9) rfl dX2_debt_102 ?_
              subst hAe
              exact wr_i (w1 := fun (u : (Nat → Int32) × (Nat → Int32) × Nat) => XW cI a pl n st ik td u.2.2 nh bs ktd knd knh kbs pg kd ag pa bo u.1 u.2.1 hh hn kag kpa kbo kdm kdn khh khn wb ps ty) hx hb hr hlocks hS (upd dm nd x, upd dn nd y, nd + 1) hP dX2_debt_105 (by unfold debF; rw [if_pos ⟨⟨Int32.not_lt.mp c_2, Int32.not_lt.mp c_8⟩, Int32.not_lt.mp c_12, c_18⟩, if_neg c_28, if_neg (by omega)])
            · skip
              refine lv_bipush (v := (-104)) hx hb dX2_debt_46 (by decide) ?_
              subst hAe
              exact wr_i (w1 := fun (u : (Nat → Int32) × (Nat → Int32) × Nat) => XW cI a pl n st ik td u.2.2 nh bs ktd knd knh kbs pg kd ag pa bo u.1 u.2.1 hh hn kag kpa kbo kdm kdn khh khn wb ps ty) hx hb hr hlocks hS (dm, dn, nd) hP dX2_debt_48 (by unfold debF; rw [if_pos ⟨⟨Int32.not_lt.mp c_2, Int32.not_lt.mp c_8⟩, Int32.not_lt.mp c_12, c_18⟩, if_neg c_28, if_pos (by omega)])
          · skip
            refine lv_bipush (v := (-103)) hx hb dX2_debt_31 (by decide) ?_
            subst hAe
            exact wr_i (w1 := fun (u : (Nat → Int32) × (Nat → Int32) × Nat) => XW cI a pl n st ik td u.2.2 nh bs ktd knd knh kbs pg kd ag pa bo u.1 u.2.1 hh hn kag kpa kbo kdm kdn khh khn wb ps ty) hx hb hr hlocks hS (dm, dn, nd) hP dX2_debt_33 (by unfold debF; rw [if_pos ⟨⟨Int32.not_lt.mp c_2, Int32.not_lt.mp c_8⟩, Int32.not_lt.mp c_12, c_18⟩, if_pos c_28])
        · skip
          refine lv_bipush (v := (-102)) hx hb dX2_debt_21 (by decide) ?_
          subst hAe
          exact wr_i (w1 := fun (u : (Nat → Int32) × (Nat → Int32) × Nat) => XW cI a pl n st ik td u.2.2 nh bs ktd knd knh kbs pg kd ag pa bo u.1 u.2.1 hh hn kag kpa kbo kdm kdn khh khn wb ps ty) hx hb hr hlocks hS (dm, dn, nd) hP dX2_debt_23 ((if_neg (fun q => c_18 q.2.2)).symm)
abbrev rm_X2_years : Room := { frames := 5, cells := 0, slots := 0, locals := 117 }
theorem vf_X1_take : vfacts RX1 yX1_take cX1_take 3 none 1 := ⟨⟨rfl, by decide +kernel, by decide +kernel, by decide +kernel⟩, gm_201, gm_202, gm_3, gm_203⟩
theorem XW_wsets_11 {cI : ClassId} {a : Nat → Nat} {pl n st : Nat} {ik : Int32} {td nd nh : Nat} {bs : Int32} {ktd knd knh : Nat} {kbs : Int32} {pg kd ag pa bo dm dn hh hn kag kpa kbo kdm kdn khh khn wb ps ty : Nat → Int32} {z0 : Nat → Int32} : wsets (XW cI a pl n st ik td nd nh bs ktd knd knh kbs pg kd ag pa bo dm dn hh hn kag kpa kbo kdm kdn khh khn wb ps ty) [35, 36, 6, 13] [(a 35, .inr (1, [.ref (a 36)])), (a 36, .inl (cI, 6, .inl z0)), (a 6, .inr (1, [.ref (a 13)])), (a 13, .inl (cI, 6, .inl ag))] = XW cI a pl n st ik td nd nh bs ktd knd knh kbs pg kd ag pa bo dm dn hh hn kag kpa kbo kdm kdn khh khn z0 ps ty := rfl
theorem sf_X2_nextSeed : sfacts RX2 yX2_nextSeed cX2_nextSeed 1 (some .int) 1 := ⟨⟨rfl, by decide +kernel, by decide +kernel, by decide +kernel⟩, gm_205, gm_2, gm_206⟩
theorem vf_X2_drawnHouse : vfacts RX2 yX2_drawnHouse cX2_drawnHouse 2 (some .int) 1 := ⟨⟨rfl, by decide +kernel, by decide +kernel, by decide +kernel⟩, gm_211, gm_369, gm_2, gm_212⟩
theorem vf_X2_bearIfMayBe : vfacts RX2 yX2_bearIfMayBe cX2_bearIfMayBe 3 none 2 := ⟨⟨rfl, by decide +kernel, by decide +kernel, by decide +kernel⟩, gm_215, gm_370, gm_2, gm_216⟩
theorem XW_wsets_12 {cI : ClassId} {a : Nat → Nat} {pl n st : Nat} {ik : Int32} {td nd nh : Nat} {bs : Int32} {ktd knd knh : Nat} {kbs : Int32} {pg kd ag pa bo dm dn hh hn kag kpa kbo kdm kdn khh khn wb ps ty : Nat → Int32} {z0 : Nat → Int32} : wsets (XW cI a pl n st ik td nd nh bs ktd knd knh kbs pg kd ag pa bo dm dn hh hn kag kpa kbo kdm kdn khh khn wb ps ty) [0, 3, 4, 35, 36] [(a 0, .inr (2, [.ref (a 1), .int (nI pl), .int (nI n), .int (nI st), .ref (a 3), .ref (a 5), .ref (a 20), .int ik, .ref (a 35), .ref (a 37), .ref (a 39)])), (a 3, .inr (1, [.ref (a 4)])), (a 4, .inl (cI, 6, .inl kd)), (a 35, .inr (1, [.ref (a 36)])), (a 36, .inl (cI, 6, .inl z0))] = XW cI a pl n st ik td nd nh bs ktd knd knh kbs pg kd ag pa bo dm dn hh hn kag kpa kbo kdm kdn khh khn z0 ps ty := rfl
set_option maxRecDepth 100000 in
set_option maxHeartbeats 4000000 in
theorem c_X2_years (l : Launch) (D : va_G) (cI cB : ClassId) (aS : Nat) (a : Nat → Nat) (pl n st : Nat) (ik : Int32) (td nd nh : Nat) (bs : Int32) (ktd knd knh : Nat) (kbs : Int32) (pg kd ag pa bo dm dn hh hn kag kpa kbo kdm kdn khh khn wb ps ty : Nat → Int32) (x y w : Int32) (hD0 : va_D (fun _ => True) (XW cI a pl n st ik td nd nh bs ktd knd knh kbs pg kd ag pa bo dm dn hh hn kag kpa kbo kdm kdn khh khn wb ps ty)) (hn6 : n ≤ 6) : Met l yX2_years (mw yX2_years cX2_years 7 (some .int)) rm_X2_years (RP D cI cB aS (XW cI a pl n st ik td nd nh bs ktd knd knh kbs pg kd ag pa bo dm dn hh hn kag kpa kbo kdm kdn khh khn wb ps ty) [.ref (a 0), .int x, .int y, .int w]) (wq mkI (XW cI a pl n st ik td nd nh bs ktd knd knh kbs pg kd ag pa bo dm dn hh hn kag kpa kbo kdm kdn khh khn wb ps ty) (fun (u : (Nat → Int32)) => XW cI a pl n st ik td nd nh bs ktd knd knh kbs pg kd ag pa bo dm dn hh hn kag kpa kbo kdm kdn khh khn u ps ty) D (fun (r : Int32) (_ : (Nat → Int32)) => r = (yrF n kd ag x y w))) 0 0 (inW (XW cI a pl n st ik td nd nh bs ktd knd knh kbs pg kd ag pa bo dm dn hh hn kag kpa kbo kdm kdn khh khn wb ps ty)) := by
  refine met_of (by decide) (Nat.le_of_ble_eq_true rfl) ?_
  intro p e s m below meth c ls hx hb hr hml hown hg hlocks hin hK hP hl
  have hown : s.vm.findClass RX2 = some m.cls := hown
  have hl : lv_has ls 7 [(0, .ref (a 0)), (1, .int x), (2, .int y), (3, .int w)] := hl
  have hD := hD0.here
  have hS0 : va_S (inW (XW cI a pl n st ik td nd nh bs ktd knd knh kbs pg kd ag pa bo dm dn hh hn kag kpa kbo kdm kdn khh khn wb ps ty)) s.heap s.heap [] := va_S.rf
  obtain ⟨H, hH⟩ : ∃ H, H = s.heap := ⟨_, rfl⟩
  have hS : va_S (inW (XW cI a pl n st ik td nd nh bs ktd knd knh kbs pg kd ag pa bo dm dn hh hn kag kpa kbo kdm kdn khh khn wb ps ty)) s.heap H [] := by rw [hH]; exact hS0
  clear hS0
  rw [← hH] at hP ⊢
  generalize hAe : inW (XW cI a pl n st ik td nd nh bs ktd knd knh kbs pg kd ag pa bo dm dn hh hn kag kpa kbo kdm kdn khh khn wb ps ty) = A at hD hS ⊢
  refine lv_iload_n hx hb dX2_years_0 rfl (lv_at hl 1 rfl) ?_
  refine lv_iconst (v := (nI 1)) hx hb dX2_years_1 (by decide) ?_
  refine lv_icmp_lt (tgt := 24) hx hb dX2_years_2 (by decide) (fun c_2 => ?_) (fun c_2 => ?_)
  · skip
    refine lv_bipush (v := (-102)) hx hb dX2_years_24 (by decide) ?_
    subst hAe
    exact wr_i (w1 := fun (u : (Nat → Int32)) => XW cI a pl n st ik td nd nh bs ktd knd knh kbs pg kd ag pa bo dm dn hh hn kag kpa kbo kdm kdn khh khn u ps ty) hx hb hr hlocks hS wb hP dX2_years_26 ((if_neg (fun q => Int32.not_lt.mpr q.1.1 c_2)).symm)
  · skip
    refine lv_iload_n hx hb dX2_years_5 rfl (lv_at hl 1 rfl) ?_
    refine lv_bipush (v := (nI 60)) hx hb dX2_years_6 (by decide) ?_
    refine lv_icmp_gt (tgt := 24) hx hb dX2_years_8 (by decide) (fun c_8 => ?_) (fun c_8 => ?_)
    · skip
      refine lv_bipush (v := (-102)) hx hb dX2_years_24 (by decide) ?_
      subst hAe
      exact wr_i (w1 := fun (u : (Nat → Int32)) => XW cI a pl n st ik td nd nh bs ktd knd knh kbs pg kd ag pa bo dm dn hh hn kag kpa kbo kdm kdn khh khn u ps ty) hx hb hr hlocks hS wb hP dX2_years_26 ((if_neg (fun q => Int32.not_lt.mpr q.1.2 c_8)).symm)
    · skip
      obtain ⟨k, k1, k2, ek⟩ := by_of ⟨Int32.not_lt.mp c_2, Int32.not_lt.mp c_8⟩ (by decide) (by decide)
      subst ek
      refine lv_iload_n hx hb dX2_years_11 rfl (lv_at hl 2 rfl) ?_
      refine lv_if_lt (tgt := 24) hx hb dX2_years_12 (by decide) (fun c_12 => ?_) (fun c_12 => ?_)
      · skip
        refine lv_bipush (v := (-102)) hx hb dX2_years_24 (by decide) ?_
        subst hAe
        exact wr_i (w1 := fun (u : (Nat → Int32)) => XW cI a pl n st ik td nd nh bs ktd knd knh kbs pg kd ag pa bo dm dn hh hn kag kpa kbo kdm kdn khh khn u ps ty) hx hb hr hlocks hS wb hP dX2_years_26 ((if_neg (fun q => Int32.not_lt.mpr q.2.1 c_12)).symm)
      · skip
        obtain ⟨z, z1, ez⟩ := nI_of c_12
        subst ez
        refine lv_iload_n hx hb dX2_years_15 rfl (lv_at hl 3 rfl) ?_
        refine lv_if_lt (tgt := 24) hx hb dX2_years_16 (by decide) (fun c_16 => ?_) (fun c_16 => ?_)
        · skip
          refine lv_bipush (v := (-102)) hx hb dX2_years_24 (by decide) ?_
          subst hAe
          exact wr_i (w1 := fun (u : (Nat → Int32)) => XW cI a pl n st ik td nd nh bs ktd knd knh kbs pg kd ag pa bo dm dn hh hn kag kpa kbo kdm kdn khh khn u ps ty) hx hb hr hlocks hS wb hP dX2_years_26 ((if_neg (fun q => Int32.not_lt.mpr q.2.2.1 c_16)).symm)
        · skip
          refine lv_iload_n hx hb dX2_years_19 rfl (lv_at hl 3 rfl) ?_
          refine lv_iconst (v := (nI 2)) hx hb dX2_years_20 (by decide) ?_
          refine lv_icmp_le (tgt := 27) hx hb dX2_years_21 (by decide) (fun c_21 => ?_) (fun c_21 => ?_)
          · skip
            refine lv_aload_n hx hb dX2_years_27 rfl (lv_at hl 0 rfl) ?_
            refine va_get (D := D) (ci := 2) (v := .int (nI n)) (C := RX2) (T := TX2) (N := 11) hx hb hg us_X2 hown hK.1 hP 0 XW_g0 rfl 2 (by decide) (hg _ gm_68) (fun _ h9 => h9) rfl dX2_years_28 ?_
            refine nv_if_ne (tgt := 37) hx hb dX2_years_31 (by omega) (by decide) (fun c_31 => ?_) (fun c_31 => ?_)
            · skip
              refine lv_aload_n hx hb dX2_years_37 rfl (lv_at hl 0 rfl) ?_
              refine va_get (D := D) (ci := 2) (v := .ref (a 35)) (C := RX2) (T := TX2) (N := 11) hx hb hg us_X2 hown hK.1 hP 0 XW_g0 rfl 8 (by decide) (hg _ gm_74) (fun _ h9 => h9) rfl dX2_years_38 ?_
              refine lv_aload_n hx hb dX2_years_41 rfl (lv_at hl 0 rfl) ?_
              refine va_get (D := D) (ci := 2) (v := .ref (a 5)) (C := RX2) (T := TX2) (N := 11) hx hb hg us_X2 hown hK.1 hP 0 XW_g0 rfl 5 (by decide) (hg _ gm_71) (fun _ h9 => h9) rfl dX2_years_42 ?_
              refine va_getN (D := D) (ci := 0) (v := .ref (a 6)) (C := RX0) (T := TX0) (N := 11) hx hb hg us_X0 hown hK.1 hP 5 XW_g5 rfl 4 (by decide) (nl_76 hK) (fun _ h9 => h9) rfl dX2_years_45 ?_
              have hP_1 : va_P D vwCl [(a 35, .inr (1, [.ref (a 36)])), (a 36, .inl (cI, 6, .inl wb)), (a 6, .inr (1, [.ref (a 13)])), (a 13, .inl (cI, 6, .inl ag))] _ := P_s4 hP XW_g35 XW_g36 XW_g6 XW_g13
              have hC_2 : ([35, 36, 6, 13] : List Nat).map (fun q_ => (XW cI a pl n st ik td nd nh bs ktd knd knh kbs pg kd ag pa bo dm dn hh hn kag kpa kbo kdm kdn khh khn wb ps ty : va_W)[q_]?) = List.map some ([(a 35, .inr (1, [.ref (a 36)])), (a 36, .inl (cI, 6, .inl wb)), (a 6, .inr (1, [.ref (a 13)])), (a 13, .inl (cI, 6, .inl ag))] : va_W) := M_s4 XW_g35 XW_g36 XW_g6 XW_g13
              have hDc_2 : va_D (fun _ => True) [(a 35, .inr (1, [.ref (a 36)])), (a 36, .inl (cI, 6, .inl wb)), (a 6, .inr (1, [.ref (a 13)])), (a 13, .inl (cI, 6, .inl ag))] := (hD.sub (ws' := [(a 35, .inr (1, [.ref (a 36)])), (a 36, .inl (cI, 6, .inl wb)), (a 6, .inr (1, [.ref (a 13)])), (a 13, .inl (cI, 6, .inl ag))]) [35, 36, 6, 13] (by decide) hC_2).weaken (fun _ _ _ _ => trivial)
              refine wrVv (As := [.ref (a 6)]) (rest := []) hx hb hml hown hg (c_X1_take l D cI cB aS (a 35) (a 36) 6 wb (a 6) (a 13) ag hDc_2 (by first | assumption | omega)) gm_200 vf_X1_take ⟨Nat.le_of_ble_eq_true rfl, Nat.le_of_ble_eq_true rfl⟩ ⟨rfl, rfl⟩ ⟨Nat.zero_le _, Nat.zero_le _⟩ (RP.preV hK hP_1 (q0 := 0) (ci := 1) rfl rfl) rfl hl.1 rfl (Nat.le_of_ble_eq_true rfl) dX2_years_48 hS (inW_sub hD [35, 36, 6, 13] hC_2) (fun u_3 H1 locs hpo_3 hP1 hk1 hS => ?_)
              have hP : va_P D vwCl (XW cI a pl n st ik td nd nh bs ktd knd knh kbs pg kd ag pa bo dm dn hh hn kag kpa kbo kdm kdn khh khn ag ps ty) H1 := P_eq (wjoin (wc := [(a 35, .inr (1, [.ref (a 36)])), (a 36, .inl (cI, 6, .inl wb)), (a 6, .inr (1, [.ref (a 13)])), (a 13, .inl (cI, 6, .inl ag))]) (w1 := [(a 35, .inr (1, [.ref (a 36)])), (a 36, .inl (cI, 6, .inl ag)), (a 6, .inr (1, [.ref (a 13)])), (a 13, .inl (cI, 6, .inl ag))]) hP hD [35, 36, 6, 13] hC_2 rfl hP1 hk1) XW_wsets_11
              have hD : va_D A (XW cI a pl n st ik td nd nh bs ktd knd knh kbs pg kd ag pa bo dm dn hh hn kag kpa kbo kdm kdn khh khn ag ps ty) := hD.addr (XW_addr.trans XW_addr.symm)
              clear hP1 hk1
              generalize H1 = H at hP hS ⊢
              refine lv_iload_n hx hb dX2_years_51 rfl (lv_at hl 2 rfl) ?_
              refine lv_istore (lv' := [(4, .int (nI z)), (0, .ref (a 0)), (1, .int (nI k)), (2, .int (nI z)), (3, .int w)]) hx hb dX2_years_52 hl (by decide) rfl (fun ls hl => ?_)
              refine lv_iconst (v := (nI 0)) hx hb dX2_years_54 (by decide) ?_
              refine lv_istore (lv' := [(5, .int (nI 0)), (4, .int (nI z)), (0, .ref (a 0)), (1, .int (nI k)), (2, .int (nI z)), (3, .int w)]) hx hb dX2_years_55 hl (by decide) rfl (fun ls hl => ?_)
              refine lv_iconst (v := (nI 0)) hx hb dX2_years_57 (by decide) ?_
              refine lv_istore (lv' := [(6, .int (nI 0)), (5, .int (nI 0)), (4, .int (nI z)), (0, .ref (a 0)), (1, .int (nI k)), (2, .int (nI z)), (3, .int w)]) hx hb dX2_years_58 hl (by decide) rfl (fun ls hl => ?_)
              -- loop at 60
              refine loopW (nL := 7) (S := Unit) (B := k) (I := fun i u => True) (lv := fun i u => [(0, .ref (a 0)), (1, .int (nI k)), (2, .int (nI z)), (3, .int w), (4, .int (nI (ySd z i))), (5, .int (nI (yFar n kd ag z i))), (6, .int (nI i))]) (wf := fun i u => XW cI a pl n st ik td nd nh bs ktd knd knh kbs pg kd ag pa bo dm dn hh hn kag kpa kbo kdm kdn khh khn (yAg n kd ag z i) ps ty) 0 () (Nat.zero_le _) (trivial) (by show lv_has ls 7 [(0, .ref (a 0)), (1, .int (nI k)), (2, .int (nI z)), (3, .int w), (4, .int (nI (ySd z 0))), (5, .int (nI (yFar n kd ag z 0))), (6, .int (nI 0))]; exact lv_sub hl [3, 4, 5, 6, 2, 1, 0] rfl) hP (hD.addr (XW_addr.trans XW_addr.symm)) hS (fun i u ls H locs hj hI hl hP hD hS ih => ?_)
              have hP : va_P D vwCl (XW cI a pl n st ik td nd nh bs ktd knd knh kbs pg kd ag pa bo dm dn hh hn kag kpa kbo kdm kdn khh khn (yAg n kd ag z i) ps ty) H := hP
              have hD : va_D A (XW cI a pl n st ik td nd nh bs ktd knd knh kbs pg kd ag pa bo dm dn hh hn kag kpa kbo kdm kdn khh khn (yAg n kd ag z i) ps ty) := hD
              have hl : lv_has ls 7 [(0, .ref (a 0)), (1, .int (nI k)), (2, .int (nI z)), (3, .int w), (4, .int (nI (ySd z i))), (5, .int (nI (yFar n kd ag z i))), (6, .int (nI i))] := hl
              have ih_60 := ih
              refine lv_iload hx hb dX2_years_60 (lv_at hl 6 rfl) ?_
              refine lv_iload_n hx hb dX2_years_62 rfl (lv_at hl 1 rfl) ?_
              refine nv_icmp_ge (tgt := 114) hx hb dX2_years_63 (by omega) (by omega) (by decide) (fun c_63 => ?_) (fun c_63 => ?_)
              · skip
                refine lv_iload_n hx hb dX2_years_114 rfl (lv_at hl 3 rfl) ?_
                refine lv_if_ne (tgt := 121) hx hb dX2_years_115 (by decide) (fun (c_115 : ¬ w = nI 0) => ?_) (fun (c_115 : w = nI 0) => ?_)
                · skip
                  refine lv_iload_n hx hb dX2_years_121 rfl (lv_at hl 3 rfl) ?_
                  refine lv_iconst (v := (nI 1)) hx hb dX2_years_122 (by decide) ?_
                  refine lv_icmp_ne (tgt := 137) hx hb dX2_years_123 (by decide) (fun c_123 => ?_) (fun c_123 => ?_)
                  · skip
                    refine lv_iload hx hb dX2_years_137 (lv_at hl 4 rfl) ?_
                    subst hAe
                    exact wr_i (w1 := fun (u : (Nat → Int32)) => XW cI a pl n st ik td nd nh bs ktd knd knh kbs pg kd ag pa bo dm dn hh hn kag kpa kbo kdm kdn khh khn u ps ty) hx hb hr hlocks hS (yAg n kd ag z i) hP dX2_years_139 (by rw [yrF_ok ⟨Int32.not_lt.mp c_2, Int32.not_lt.mp c_8⟩ k2 z1 ⟨Int32.not_lt.mp c_16, c_21⟩, if_neg c_31]; unfold yrN; rw [if_neg c_115, if_neg c_123, show i = k by omega])
                  · skip
                    refine lv_aload_n hx hb dX2_years_126 rfl (lv_at hl 0 rfl) ?_
                    refine lv_aload_n hx hb dX2_years_127 rfl (lv_at hl 0 rfl) ?_
                    refine va_get (D := D) (ci := 2) (v := .ref (a 35)) (C := RX2) (T := TX2) (N := 11) hx hb hg us_X2 hown hK.1 hP 0 XW_g0 rfl 8 (by decide) (hg _ gm_74) (fun _ h9 => h9) rfl dX2_years_128 ?_
                    have hP_4 : va_P D vwCl [(a 0, .inr (2, [.ref (a 1), .int (nI pl), .int (nI n), .int (nI st), .ref (a 3), .ref (a 5), .ref (a 20), .int ik, .ref (a 35), .ref (a 37), .ref (a 39)])), (a 3, .inr (1, [.ref (a 4)])), (a 4, .inl (cI, 6, .inl kd)), (a 35, .inr (1, [.ref (a 36)])), (a 36, .inl (cI, 6, .inl (yAg n kd ag z i)))] _ := P_s5 hP XW_g0 XW_g3 XW_g4 XW_g35 XW_g36
                    refine rdV (As := [.ref (a 35)]) (rest := []) hx hb hml hown hg (c_X2_allNumbers l D cI cB aS (a 0) (a 3) (a 4) (a 35) (a 36) n ([.ref (a 1), .int (nI pl), .int (nI n), .int (nI st), .ref (a 3), .ref (a 5), .ref (a 20), .int ik, .ref (a 35), .ref (a 37), .ref (a 39)]) kd (yAg n kd ag z i) rfl rfl (by first | assumption | omega)) gm_217 vf_X2_allNumbers ⟨Nat.le_of_ble_eq_true rfl, Nat.le_of_ble_eq_true rfl⟩ ⟨rfl, rfl⟩ ⟨Nat.zero_le _, Nat.zero_le _⟩ (RP.preV hK hP_4 (q0 := 0) (ci := 2) rfl rfl) rfl hl.1 rfl (Nat.le_of_ble_eq_true rfl) dX2_years_131 ?_
                    refine lv_goto (tgt := 139) hx hb dX2_years_134 (by decide) ?_
                    subst hAe
                    exact wr_i (w1 := fun (u : (Nat → Int32)) => XW cI a pl n st ik td nd nh bs ktd knd knh kbs pg kd ag pa bo dm dn hh hn kag kpa kbo kdm kdn khh khn u ps ty) hx hb hr hlocks hS (yAg n kd ag z i) hP dX2_years_139 (by rw [yrF_ok ⟨Int32.not_lt.mp c_2, Int32.not_lt.mp c_8⟩ k2 z1 ⟨Int32.not_lt.mp c_16, c_21⟩, if_neg c_31]; unfold yrN; rw [if_neg c_115, if_pos c_123, show i = k by omega])
                · skip
                  refine lv_iload hx hb dX2_years_118 (lv_at hl 5 rfl) ?_
                  subst hAe
                  exact wr_i (w1 := fun (u : (Nat → Int32)) => XW cI a pl n st ik td nd nh bs ktd knd knh kbs pg kd ag pa bo dm dn hh hn kag kpa kbo kdm kdn khh khn u ps ty) hx hb hr hlocks hS (yAg n kd ag z i) hP dX2_years_120 (by rw [yrF_ok ⟨Int32.not_lt.mp c_2, Int32.not_lt.mp c_8⟩ k2 z1 ⟨Int32.not_lt.mp c_16, c_21⟩, if_neg c_31]; unfold yrN; rw [if_pos c_115, show i = k by omega])
              · skip
                refine lv_iload hx hb dX2_years_66 (lv_at hl 4 rfl) ?_
                refine rdS (As := [.int (nI (ySd z i))]) (rest := []) hx hb hml hown hg (c_X2_nextSeed l D cI cB aS (ySd z i) (ySd_lt z1)) gm_204 sf_X2_nextSeed ⟨Nat.le_of_ble_eq_true rfl, Nat.le_of_ble_eq_true rfl⟩ ⟨rfl, rfl⟩ ⟨Nat.zero_le _, Nat.zero_le _⟩ (RP.preS hK (fun k q h => by simp at h)) rfl hl.1 rfl (Nat.le_of_ble_eq_true rfl) dX2_years_68 ?_
                refine lv_istore (lv' := [(4, .int (nI (sdF (ySd z i)))), (0, .ref (a 0)), (1, .int (nI k)), (2, .int (nI z)), (3, .int w), (5, .int (nI (yFar n kd ag z i))), (6, .int (nI i))]) hx hb dX2_years_71 hl (by decide) rfl (fun ls hl => ?_)
                refine lv_aload_n hx hb dX2_years_73 rfl (lv_at hl 1 rfl) ?_
                refine lv_aload_n hx hb dX2_years_74 rfl (lv_at hl 1 rfl) ?_
                refine va_get (D := D) (ci := 2) (v := .ref (a 35)) (C := RX2) (T := TX2) (N := 11) hx hb hg us_X2 hown hK.1 hP 0 XW_g0 rfl 8 (by decide) (hg _ gm_74) (fun _ h9 => h9) rfl dX2_years_75 ?_
                refine lv_aload_n hx hb dX2_years_78 rfl (lv_at hl 1 rfl) ?_
                refine lv_iload hx hb dX2_years_79 (lv_at hl 0 rfl) ?_
                refine rdV (As := [.int (nI (sdF (ySd z i)))]) (rest := [.ref (a 35), .ref (a 0)]) hx hb hml hown hg (c_X2_drawnHouse l D cI cB aS _ pl n st ik td nd nh bs ktd knd knh kbs pg kd ag pa bo dm dn hh hn kag kpa kbo kdm kdn khh khn (yAg n kd ag z i) ps ty (sdF (ySd z i)) (by first | assumption | omega) (by omega) (sdF_lt _)) gm_210 vf_X2_drawnHouse ⟨Nat.le_of_ble_eq_true rfl, Nat.le_of_ble_eq_true rfl⟩ ⟨rfl, rfl⟩ ⟨Nat.zero_le _, Nat.zero_le _⟩ (RP.preV hK hP (q0 := 0) (ci := 2) XW_g0 rfl) rfl hl.1 rfl (Nat.le_of_ble_eq_true rfl) dX2_years_81 ?_
                have hP_5 : va_P D vwCl [(a 0, .inr (2, [.ref (a 1), .int (nI pl), .int (nI n), .int (nI st), .ref (a 3), .ref (a 5), .ref (a 20), .int ik, .ref (a 35), .ref (a 37), .ref (a 39)])), (a 3, .inr (1, [.ref (a 4)])), (a 4, .inl (cI, 6, .inl kd)), (a 35, .inr (1, [.ref (a 36)])), (a 36, .inl (cI, 6, .inl (yAg n kd ag z i)))] _ := P_s5 hP XW_g0 XW_g3 XW_g4 XW_g35 XW_g36
                have hC_6 : ([0, 3, 4, 35, 36] : List Nat).map (fun q_ => (XW cI a pl n st ik td nd nh bs ktd knd knh kbs pg kd ag pa bo dm dn hh hn kag kpa kbo kdm kdn khh khn (yAg n kd ag z i) ps ty : va_W)[q_]?) = List.map some ([(a 0, .inr (2, [.ref (a 1), .int (nI pl), .int (nI n), .int (nI st), .ref (a 3), .ref (a 5), .ref (a 20), .int ik, .ref (a 35), .ref (a 37), .ref (a 39)])), (a 3, .inr (1, [.ref (a 4)])), (a 4, .inl (cI, 6, .inl kd)), (a 35, .inr (1, [.ref (a 36)])), (a 36, .inl (cI, 6, .inl (yAg n kd ag z i)))] : va_W) := M_s5 XW_g0 XW_g3 XW_g4 XW_g35 XW_g36
                have hDc_6 : va_D (fun _ => True) [(a 0, .inr (2, [.ref (a 1), .int (nI pl), .int (nI n), .int (nI st), .ref (a 3), .ref (a 5), .ref (a 20), .int ik, .ref (a 35), .ref (a 37), .ref (a 39)])), (a 3, .inr (1, [.ref (a 4)])), (a 4, .inl (cI, 6, .inl kd)), (a 35, .inr (1, [.ref (a 36)])), (a 36, .inl (cI, 6, .inl (yAg n kd ag z i)))] := (hD.sub (ws' := [(a 0, .inr (2, [.ref (a 1), .int (nI pl), .int (nI n), .int (nI st), .ref (a 3), .ref (a 5), .ref (a 20), .int ik, .ref (a 35), .ref (a 37), .ref (a 39)])), (a 3, .inr (1, [.ref (a 4)])), (a 4, .inl (cI, 6, .inl kd)), (a 35, .inr (1, [.ref (a 36)])), (a 36, .inl (cI, 6, .inl (yAg n kd ag z i)))]) [0, 3, 4, 35, 36] (by decide) hC_6).weaken (fun _ _ _ _ => trivial)
                refine wrVv (As := [.ref (a 35), .int (nI (drF n (sdF (ySd z i))))]) (rest := []) hx hb hml hown hg (c_X2_bearIfMayBe l D cI cB aS (a 0) (a 3) (a 4) (a 35) (a 36) n ([.ref (a 1), .int (nI pl), .int (nI n), .int (nI st), .ref (a 3), .ref (a 5), .ref (a 20), .int ik, .ref (a 35), .ref (a 37), .ref (a 39)]) kd (yAg n kd ag z i) (drF n (sdF (ySd z i))) hDc_6 rfl rfl (drF_lt (by omega)) (by first | assumption | omega)) gm_214 vf_X2_bearIfMayBe ⟨Nat.le_of_ble_eq_true rfl, Nat.le_of_ble_eq_true rfl⟩ ⟨rfl, rfl⟩ ⟨Nat.zero_le _, Nat.zero_le _⟩ (RP.preV hK hP_5 (q0 := 0) (ci := 2) rfl rfl) rfl hl.1 rfl (Nat.le_of_ble_eq_true rfl) dX2_years_84 hS (inW_sub hD [0, 3, 4, 35, 36] hC_6) (fun u_7 H1 locs hpo_7 hP1 hk1 hS => ?_)
                have hP : va_P D vwCl (XW cI a pl n st ik td nd nh bs ktd knd knh kbs pg kd ag pa bo dm dn hh hn kag kpa kbo kdm kdn khh khn (yB n kd (yAg n kd ag z i) (drF n (sdF (ySd z i)))) ps ty) H1 := P_eq (wjoin (wc := [(a 0, .inr (2, [.ref (a 1), .int (nI pl), .int (nI n), .int (nI st), .ref (a 3), .ref (a 5), .ref (a 20), .int ik, .ref (a 35), .ref (a 37), .ref (a 39)])), (a 3, .inr (1, [.ref (a 4)])), (a 4, .inl (cI, 6, .inl kd)), (a 35, .inr (1, [.ref (a 36)])), (a 36, .inl (cI, 6, .inl (yAg n kd ag z i)))]) (w1 := [(a 0, .inr (2, [.ref (a 1), .int (nI pl), .int (nI n), .int (nI st), .ref (a 3), .ref (a 5), .ref (a 20), .int ik, .ref (a 35), .ref (a 37), .ref (a 39)])), (a 3, .inr (1, [.ref (a 4)])), (a 4, .inl (cI, 6, .inl kd)), (a 35, .inr (1, [.ref (a 36)])), (a 36, .inl (cI, 6, .inl (yB n kd (yAg n kd ag z i) (drF n (sdF (ySd z i))))))]) hP hD [0, 3, 4, 35, 36] hC_6 rfl hP1 hk1) XW_wsets_12
                have hD : va_D A (XW cI a pl n st ik td nd nh bs ktd knd knh kbs pg kd ag pa bo dm dn hh hn kag kpa kbo kdm kdn khh khn (yB n kd (yAg n kd ag z i) (drF n (sdF (ySd z i)))) ps ty) := hD.addr (XW_addr.trans XW_addr.symm)
                clear hP1 hk1
                generalize H1 = H at hP hS ⊢
                refine lv_iload hx hb dX2_years_87 (lv_at hl 5 rfl) ?_
                refine lv_aload_n hx hb dX2_years_89 rfl (lv_at hl 1 rfl) ?_
                refine lv_aload_n hx hb dX2_years_90 rfl (lv_at hl 1 rfl) ?_
                refine va_get (D := D) (ci := 2) (v := .ref (a 35)) (C := RX2) (T := TX2) (N := 11) hx hb hg us_X2 hown hK.1 hP 0 XW_g0 rfl 8 (by decide) (hg _ gm_74) (fun _ h9 => h9) rfl dX2_years_91 ?_
                have hP_8 : va_P D vwCl [(a 0, .inr (2, [.ref (a 1), .int (nI pl), .int (nI n), .int (nI st), .ref (a 3), .ref (a 5), .ref (a 20), .int ik, .ref (a 35), .ref (a 37), .ref (a 39)])), (a 3, .inr (1, [.ref (a 4)])), (a 4, .inl (cI, 6, .inl kd)), (a 35, .inr (1, [.ref (a 36)])), (a 36, .inl (cI, 6, .inl (yB n kd (yAg n kd ag z i) (drF n (sdF (ySd z i))))))] _ := P_s5 hP XW_g0 XW_g3 XW_g4 XW_g35 XW_g36
                refine rdV (As := [.ref (a 35)]) (rest := [.int (nI (yFar n kd ag z i))]) hx hb hml hown hg (c_X2_lengthOfWalk l D cI cB aS (a 0) (a 3) (a 4) (a 35) (a 36) n ([.ref (a 1), .int (nI pl), .int (nI n), .int (nI st), .ref (a 3), .ref (a 5), .ref (a 20), .int ik, .ref (a 35), .ref (a 37), .ref (a 39)]) kd (yB n kd (yAg n kd ag z i) (drF n (sdF (ySd z i)))) rfl rfl (by first | assumption | omega)) gm_175 vf_X2_lengthOfWalk ⟨Nat.le_of_ble_eq_true rfl, Nat.le_of_ble_eq_true rfl⟩ ⟨rfl, rfl⟩ ⟨Nat.zero_le _, Nat.zero_le _⟩ (RP.preV hK hP_8 (q0 := 0) (ci := 2) rfl rfl) rfl hl.1 rfl (Nat.le_of_ble_eq_true rfl) dX2_years_94 ?_
                refine nv_iadd hx hb dX2_years_97 ?_
                refine lv_istore (lv' := [(5, .int (nI (yFar n kd ag z i + (wkF n (nmF kd (yB n kd (yAg n kd ag z i) (drF n (sdF (ySd z i))))) n)))), (4, .int (nI (sdF (ySd z i)))), (0, .ref (a 0)), (1, .int (nI k)), (2, .int (nI z)), (3, .int w), (6, .int (nI i))]) hx hb dX2_years_98 hl (by decide) rfl (fun ls hl => ?_)
                refine lv_aload_n hx hb dX2_years_100 rfl (lv_at hl 2 rfl) ?_
                refine lv_aload_n hx hb dX2_years_101 rfl (lv_at hl 2 rfl) ?_
                refine va_get (D := D) (ci := 2) (v := .ref (a 35)) (C := RX2) (T := TX2) (N := 11) hx hb hg us_X2 hown hK.1 hP 0 XW_g0 rfl 8 (by decide) (hg _ gm_74) (fun _ h9 => h9) rfl dX2_years_102 ?_
                have hP_9 : va_P D vwCl [(a 0, .inr (2, [.ref (a 1), .int (nI pl), .int (nI n), .int (nI st), .ref (a 3), .ref (a 5), .ref (a 20), .int ik, .ref (a 35), .ref (a 37), .ref (a 39)])), (a 3, .inr (1, [.ref (a 4)])), (a 4, .inl (cI, 6, .inl kd)), (a 35, .inr (1, [.ref (a 36)])), (a 36, .inl (cI, 6, .inl (yB n kd (yAg n kd ag z i) (drF n (sdF (ySd z i))))))] _ := P_s5 hP XW_g0 XW_g3 XW_g4 XW_g35 XW_g36
                have hC_10 : ([0, 3, 4, 35, 36] : List Nat).map (fun q_ => (XW cI a pl n st ik td nd nh bs ktd knd knh kbs pg kd ag pa bo dm dn hh hn kag kpa kbo kdm kdn khh khn (yB n kd (yAg n kd ag z i) (drF n (sdF (ySd z i)))) ps ty : va_W)[q_]?) = List.map some ([(a 0, .inr (2, [.ref (a 1), .int (nI pl), .int (nI n), .int (nI st), .ref (a 3), .ref (a 5), .ref (a 20), .int ik, .ref (a 35), .ref (a 37), .ref (a 39)])), (a 3, .inr (1, [.ref (a 4)])), (a 4, .inl (cI, 6, .inl kd)), (a 35, .inr (1, [.ref (a 36)])), (a 36, .inl (cI, 6, .inl (yB n kd (yAg n kd ag z i) (drF n (sdF (ySd z i))))))] : va_W) := M_s5 XW_g0 XW_g3 XW_g4 XW_g35 XW_g36
                have hDc_10 : va_D (fun _ => True) [(a 0, .inr (2, [.ref (a 1), .int (nI pl), .int (nI n), .int (nI st), .ref (a 3), .ref (a 5), .ref (a 20), .int ik, .ref (a 35), .ref (a 37), .ref (a 39)])), (a 3, .inr (1, [.ref (a 4)])), (a 4, .inl (cI, 6, .inl kd)), (a 35, .inr (1, [.ref (a 36)])), (a 36, .inl (cI, 6, .inl (yB n kd (yAg n kd ag z i) (drF n (sdF (ySd z i))))))] := (hD.sub (ws' := [(a 0, .inr (2, [.ref (a 1), .int (nI pl), .int (nI n), .int (nI st), .ref (a 3), .ref (a 5), .ref (a 20), .int ik, .ref (a 35), .ref (a 37), .ref (a 39)])), (a 3, .inr (1, [.ref (a 4)])), (a 4, .inl (cI, 6, .inl kd)), (a 35, .inr (1, [.ref (a 36)])), (a 36, .inl (cI, 6, .inl (yB n kd (yAg n kd ag z i) (drF n (sdF (ySd z i))))))]) [0, 3, 4, 35, 36] (by decide) hC_10).weaken (fun _ _ _ _ => trivial)
                refine wrVv (As := [.ref (a 35)]) (rest := []) hx hb hml hown hg (c_X2_growOlder l D cI cB aS (a 0) (a 3) (a 4) (a 35) (a 36) n ([.ref (a 1), .int (nI pl), .int (nI n), .int (nI st), .ref (a 3), .ref (a 5), .ref (a 20), .int ik, .ref (a 35), .ref (a 37), .ref (a 39)]) kd (yB n kd (yAg n kd ag z i) (drF n (sdF (ySd z i)))) hDc_10 rfl rfl (by first | assumption | omega)) gm_154 vf_X2_growOlder ⟨Nat.le_of_ble_eq_true rfl, Nat.le_of_ble_eq_true rfl⟩ ⟨rfl, rfl⟩ ⟨Nat.zero_le _, Nat.zero_le _⟩ (RP.preV hK hP_9 (q0 := 0) (ci := 2) rfl rfl) rfl hl.1 rfl (Nat.le_of_ble_eq_true rfl) dX2_years_105 hS (inW_sub hD [0, 3, 4, 35, 36] hC_10) (fun u_11 H1 locs hpo_11 hP1 hk1 hS => ?_)
                have hP : va_P D vwCl (XW cI a pl n st ik td nd nh bs ktd knd knh kbs pg kd ag pa bo dm dn hh hn kag kpa kbo kdm kdn khh khn (groF kd (yB n kd (yAg n kd ag z i) (drF n (sdF (ySd z i)))) n) ps ty) H1 := P_eq (wjoin (wc := [(a 0, .inr (2, [.ref (a 1), .int (nI pl), .int (nI n), .int (nI st), .ref (a 3), .ref (a 5), .ref (a 20), .int ik, .ref (a 35), .ref (a 37), .ref (a 39)])), (a 3, .inr (1, [.ref (a 4)])), (a 4, .inl (cI, 6, .inl kd)), (a 35, .inr (1, [.ref (a 36)])), (a 36, .inl (cI, 6, .inl (yB n kd (yAg n kd ag z i) (drF n (sdF (ySd z i))))))]) (w1 := [(a 0, .inr (2, [.ref (a 1), .int (nI pl), .int (nI n), .int (nI st), .ref (a 3), .ref (a 5), .ref (a 20), .int ik, .ref (a 35), .ref (a 37), .ref (a 39)])), (a 3, .inr (1, [.ref (a 4)])), (a 4, .inl (cI, 6, .inl kd)), (a 35, .inr (1, [.ref (a 36)])), (a 36, .inl (cI, 6, .inl (groF kd (yB n kd (yAg n kd ag z i) (drF n (sdF (ySd z i)))) n)))]) hP hD [0, 3, 4, 35, 36] hC_10 rfl hP1 hk1) XW_wsets_12
                have hD : va_D A (XW cI a pl n st ik td nd nh bs ktd knd knh kbs pg kd ag pa bo dm dn hh hn kag kpa kbo kdm kdn khh khn (groF kd (yB n kd (yAg n kd ag z i) (drF n (sdF (ySd z i)))) n) ps ty) := hD.addr (XW_addr.trans XW_addr.symm)
                clear hP1 hk1
                generalize H1 = H at hP hS ⊢
                refine lv_iinc (v := (nI (i + 1))) (lv' := [(6, .int (nI (i + 1))), (5, .int (nI (yFar n kd ag z i + (wkF n (nmF kd (yB n kd (yAg n kd ag z i) (drF n (sdF (ySd z i))))) n)))), (4, .int (nI (sdF (ySd z i)))), (0, .ref (a 0)), (1, .int (nI k)), (2, .int (nI z)), (3, .int w)]) hx hb dX2_years_108 hl (k := 6) rfl (nI_i1 _) (by decide) rfl (fun ls hl => ?_)
                refine lv_goto (tgt := 60) hx hb dX2_years_111 (by decide) ?_
                exact ih_60 () _ _ _ (by omega) (trivial) (by show lv_has ls 7 [(0, .ref (a 0)), (1, .int (nI k)), (2, .int (nI z)), (3, .int w), (4, .int (nI (ySd z (i + 1)))), (5, .int (nI (yFar n kd ag z (i + 1)))), (6, .int (nI (i + 1)))]; rw [show (ySd z (i + 1)) = sdF (ySd z i) from rfl, show (yFar n kd ag z (i + 1)) = yFar n kd ag z i + (wkF n (nmF kd (yB n kd (yAg n kd ag z i) (drF n (sdF (ySd z i))))) n) from rfl]; exact lv_sub hl [3, 4, 5, 6, 2, 1, 0] rfl) hP (hD.addr (XW_addr.trans XW_addr.symm)) hS
            · skip
              refine lv_bipush (v := (-103)) hx hb dX2_years_34 (by decide) ?_
              subst hAe
              exact wr_i (w1 := fun (u : (Nat → Int32)) => XW cI a pl n st ik td nd nh bs ktd knd knh kbs pg kd ag pa bo dm dn hh hn kag kpa kbo kdm kdn khh khn u ps ty) hx hb hr hlocks hS wb hP dX2_years_36 (by rw [yrF_ok ⟨Int32.not_lt.mp c_2, Int32.not_lt.mp c_8⟩ k2 z1 ⟨Int32.not_lt.mp c_16, c_21⟩, if_pos c_31])
          · skip
            refine lv_bipush (v := (-102)) hx hb dX2_years_24 (by decide) ?_
            subst hAe
            exact wr_i (w1 := fun (u : (Nat → Int32)) => XW cI a pl n st ik td nd nh bs ktd knd knh kbs pg kd ag pa bo dm dn hh hn kag kpa kbo kdm kdn khh khn u ps ty) hx hb hr hlocks hS wb hP dX2_years_26 ((if_neg (fun q => c_21 q.2.2.2)).symm)
end
section
abbrev rm_J0_coder_7d493 : Room := { frames := 0, cells := 0, slots := 0, locals := 0 }
set_option maxRecDepth 100000 in
set_option maxHeartbeats 4000000 in
theorem c_J0_coder_7d493 (l : Launch) (D : va_G) (cI cB : ClassId) (aS aV : Nat)   : Met l yJ0_coder_7d493 (mw yJ0_coder_7d493 cJ0_coder_7d493 1 (some .byte)) rm_J0_coder_7d493 (RPE D cI cB aS aV (fun _ => False) ([]) [.ref aS]) (vp_Si (fun r => r = (nI 0))) 0 0 (fun _ => False) := by
  refine met_ofE (by decide) (Nat.le_of_ble_eq_true rfl) ?_
  intro p e s m below meth c ls hx hb hr hml hown hg hlocks hin hK hE hP hl
  have hSr : va_S (fun _ => False) s.heap s.heap [] := va_S.rf
  have hown : s.vm.findClass RJ0 = some m.cls := hown
  have hl : lv_has ls 1 [(0, .ref aS)] := hl
  refine va_gets hx hb hE.2.1 hSr hown (hg _ gm_263) (fun _ h9 => h9) dJ0_coder_7d493_0 ?_
  refine nv_if_eq (tgt := 13) hx hb dJ0_coder_7d493_3 (by decide) (by decide) (fun c_3 => ?_) (fun c_3 => ?_)
  · exact absurd c_3 (by decide)
  · skip
    refine lv_aload_n hx hb dJ0_coder_7d493_6 rfl (lv_at hl 0 rfl) ?_
    refine vk_getf (v := .int (nI 0)) hx hb (hE.1.1 0 (by decide)).2.1 hSr hown (hg _ gm_355) (fun _ h9 => h9) dJ0_coder_7d493_7 ?_
    refine lv_goto (tgt := 14) hx hb dJ0_coder_7d493_10 (by decide) ?_
    exact rr_z hx hb hr hlocks dJ0_coder_7d493_14 rfl rfl
abbrev rm_J0_length_8abf5 : Room := { frames := 1, cells := 0, slots := 0, locals := 20 }
theorem vf_J0_coder_7d493 : vfacts RJ0 yJ0_coder_7d493 cJ0_coder_7d493 1 (some .byte) 0 := ⟨⟨rfl, by decide +kernel, by decide +kernel, by decide +kernel⟩, gm_260, gm_261, gm_5, gm_262⟩
set_option maxRecDepth 100000 in
set_option maxHeartbeats 4000000 in
theorem c_J0_length_8abf5 (l : Launch) (D : va_G) (cI cB : ClassId) (aS aV : Nat)   : Met l yJ0_length_8abf5 (mw yJ0_length_8abf5 cJ0_length_8abf5 1 (some .int)) rm_J0_length_8abf5 (RPE D cI cB aS aV (fun _ => False) ([]) [.ref aS]) (vp_Si (fun r => r = (nI 5))) 0 0 (fun _ => False) := by
  refine met_ofE (by decide) (Nat.le_of_ble_eq_true rfl) ?_
  intro p e s m below meth c ls hx hb hr hml hown hg hlocks hin hK hE hP hl
  have hSr : va_S (fun _ => False) s.heap s.heap [] := va_S.rf
  have hown : s.vm.findClass RJ0 = some m.cls := hown
  have hl : lv_has ls 1 [(0, .ref aS)] := hl
  refine lv_aload_n hx hb dJ0_length_8abf5_0 rfl (lv_at hl 0 rfl) ?_
  refine vk_getf (v := .ref aV) hx hb (hE.1.1 0 (by decide)).2.2.1 hSr hown (hg _ gm_354) (fun _ h9 => h9) dJ0_length_8abf5_1 ?_
  refine va_tlen (v := nI 5) hx hb (hE.1.1 0 (by decide)).2.2.2 hSr rfl dJ0_length_8abf5_4 ?_
  refine lv_aload_n hx hb dJ0_length_8abf5_5 rfl (lv_at hl 0 rfl) ?_
  refine rdV (As := []) (rest := [.int (nI 5)]) hx hb hml hown hg (c_J0_coder_7d493 l D cI cB aS aV) gm_259 vf_J0_coder_7d493 ⟨Nat.le_of_ble_eq_true rfl, Nat.le_of_ble_eq_true rfl⟩ ⟨rfl, rfl⟩ ⟨Nat.zero_le _, Nat.zero_le _⟩ (RPE.preX hK hE (fun k q h => by simp at h)) rfl hl.1 rfl (Nat.le_of_ble_eq_true rfl) dJ0_length_8abf5_6 ?_
  refine lv_ishr hx hb dJ0_length_8abf5_9 ?_
  exact rr_i hx hb hr hlocks dJ0_length_8abf5_10 (by decide)
abbrev rm_J0_isLatin1_aae02 : Room := { frames := 0, cells := 0, slots := 0, locals := 0 }
set_option maxRecDepth 100000 in
set_option maxHeartbeats 4000000 in
theorem c_J0_isLatin1_aae02 (l : Launch) (D : va_G) (cI cB : ClassId) (aS aV : Nat)   : Met l yJ0_isLatin1_aae02 (mw yJ0_isLatin1_aae02 cJ0_isLatin1_aae02 1 (some .boolean)) rm_J0_isLatin1_aae02 (RPE D cI cB aS aV (fun _ => False) ([]) [.ref aS]) (vp_Si (fun r => r = (nI 1))) 0 0 (fun _ => False) := by
  refine met_ofE (by decide) (Nat.le_of_ble_eq_true rfl) ?_
  intro p e s m below meth c ls hx hb hr hml hown hg hlocks hin hK hE hP hl
  have hSr : va_S (fun _ => False) s.heap s.heap [] := va_S.rf
  have hown : s.vm.findClass RJ0 = some m.cls := hown
  have hl : lv_has ls 1 [(0, .ref aS)] := hl
  refine va_gets hx hb hE.2.1 hSr hown (hg _ gm_263) (fun _ h9 => h9) dJ0_isLatin1_aae02_0 ?_
  refine nv_if_eq (tgt := 17) hx hb dJ0_isLatin1_aae02_3 (by decide) (by decide) (fun c_3 => ?_) (fun c_3 => ?_)
  · exact absurd c_3 (by decide)
  · skip
    refine lv_aload_n hx hb dJ0_isLatin1_aae02_6 rfl (lv_at hl 0 rfl) ?_
    refine vk_getf (v := .int (nI 0)) hx hb (hE.1.1 0 (by decide)).2.1 hSr hown (hg _ gm_355) (fun _ h9 => h9) dJ0_isLatin1_aae02_7 ?_
    refine nv_if_ne (tgt := 17) hx hb dJ0_isLatin1_aae02_10 (by decide) (by decide) (fun c_10 => ?_) (fun c_10 => ?_)
    · exact absurd rfl c_10
    · skip
      refine lv_iconst (v := (nI 1)) hx hb dJ0_isLatin1_aae02_13 (by decide) ?_
      refine lv_goto (tgt := 18) hx hb dJ0_isLatin1_aae02_14 (by decide) ?_
      exact rr_z hx hb hr hlocks dJ0_isLatin1_aae02_18 rfl rfl
abbrev rm_J3_checkIndex_8e157 : Room := { frames := 0, cells := 0, slots := 0, locals := 0 }
set_option maxRecDepth 100000 in
set_option maxHeartbeats 4000000 in
theorem c_J3_checkIndex_8e157 (l : Launch) (D : va_G) (cI cB : ClassId) (aS aV : Nat) (i q : Nat) (vf : Value) (qi : i < q) (qq : q < 2147483648) (hv : vf = .null ∨ ∃ t, vf = .ref t) : Met l yJ3_checkIndex_8e157 (mw yJ3_checkIndex_8e157 cJ3_checkIndex_8e157 3 (some .int)) rm_J3_checkIndex_8e157 (RPE D cI cB aS aV (fun _ => False) ([]) [.int (nI i), .int (nI q), vf]) (vp_Si (fun r => r = (nI i))) 0 0 (fun _ => False) := by
  refine met_ofE (by decide) (by rcases hv with rfl | ⟨t, rfl⟩ <;> exact Nat.le_of_ble_eq_true rfl) ?_
  intro p e s m below meth c ls hx hb hr hml hown hg hlocks hin hK hE hP hl
  have hSr : va_S (fun _ => False) s.heap s.heap [] := va_S.rf
  have hown : s.vm.findClass RJ3 = some m.cls := hown
  have hl : lv_has ls 3 [(0, .int (nI i)), (1, .int (nI q)), (2, vf)] := hl
  refine lv_iload_n hx hb dJ3_checkIndex_8e157_0 rfl (lv_at hl 0 rfl) ?_
  refine nv_if_lt (tgt := 9) hx hb dJ3_checkIndex_8e157_1 (by omega) (by decide) ?_
  refine lv_iload_n hx hb dJ3_checkIndex_8e157_4 rfl (lv_at hl 0 rfl) ?_
  refine lv_iload_n hx hb dJ3_checkIndex_8e157_5 rfl (lv_at hl 1 rfl) ?_
  refine nv_icmp_lt (tgt := 16) hx hb dJ3_checkIndex_8e157_6 (by omega) (by omega) (by decide) (fun c_6 => ?_) (fun c_6 => ?_)
  · skip
    refine lv_iload_n hx hb dJ3_checkIndex_8e157_16 rfl (lv_at hl 0 rfl) ?_
    exact rr_i hx hb hr hlocks dJ3_checkIndex_8e157_17 rfl
  · exact absurd c_6 (by omega)
abbrev rm_J0_checkIndex_df160 : Room := { frames := 1, cells := 0, slots := 0, locals := 22 }
theorem sf_J3_checkIndex_8e157 : sfacts RJ3 yJ3_checkIndex_8e157 cJ3_checkIndex_8e157 3 (some .int) 3 := ⟨⟨rfl, by decide +kernel, by decide +kernel, by decide +kernel⟩, gm_280, gm_7, gm_281⟩
set_option maxRecDepth 100000 in
set_option maxHeartbeats 4000000 in
theorem c_J0_checkIndex_df160 (l : Launch) (D : va_G) (cI cB : ClassId) (aS aV : Nat) (i q : Nat) (qi : i < q) (qq : q < 2147483648) : Met l yJ0_checkIndex_df160 (mw yJ0_checkIndex_df160 cJ0_checkIndex_df160 2 none) rm_J0_checkIndex_df160 (RPE D cI cB aS aV (fun _ => False) ([]) [.int (nI i), .int (nI q)]) (va_Sv (fun _ => True)) 0 0 (fun _ => False) := by
  refine met_ofE (by decide) (Nat.le_of_ble_eq_true rfl) ?_
  intro p e s m below meth c ls hx hb hr hml hown hg hlocks hin hK hE hP hl
  have hSr : va_S (fun _ => False) s.heap s.heap [] := va_S.rf
  have hown : s.vm.findClass RJ0 = some m.cls := hown
  have hl : lv_has ls 2 [(0, .int (nI i)), (1, .int (nI q))] := hl
  refine lv_iload_n hx hb dJ0_checkIndex_df160_0 rfl (lv_at hl 0 rfl) ?_
  refine lv_iload_n hx hb dJ0_checkIndex_df160_1 rfl (lv_at hl 1 rfl) ?_
  obtain ⟨vq, hvc, hvq⟩ : ∃ vq : Value, (vq = .null ∨ ∃ t, vq = .ref t) ∧ va_Z "jdk/internal/util/Preconditions" "SIOOBE_FORMATTER" "Ljava/util/function/BiFunction;" vq (fun _ => False) s s.heap := by rcases hE.2.2 with hz | ⟨t, hz⟩; exact ⟨_, Or.inl rfl, hz⟩; exact ⟨_, Or.inr ⟨t, rfl⟩, hz⟩
  refine va_gets hx hb hvq hSr hown (hg _ gm_278) (fun _ h9 => h9) dJ0_checkIndex_df160_2 ?_
  refine rdS (As := [.int (nI i), .int (nI q), vq]) (rest := []) hx hb hml hown hg (c_J3_checkIndex_8e157 l D cI cB aS aV i q vq (by first | assumption | omega) (by first | assumption | omega) hvc) gm_279 sf_J3_checkIndex_8e157 ⟨Nat.le_of_ble_eq_true rfl, Nat.le_of_ble_eq_true rfl⟩ ⟨rfl, rfl⟩ ⟨Nat.zero_le _, Nat.zero_le _⟩ (RPE.preS hK hE (fun k q h => by simp at h)) rfl hl.1 rfl (Nat.le_of_ble_eq_true rfl) dJ0_checkIndex_df160_5 ?_
  refine lv_pop hx hb dJ0_checkIndex_df160_8 rfl ?_
  exact rr_v hx hb hr hlocks dJ0_checkIndex_df160_9
abbrev rm_J1_charAt_3b067 : Room := { frames := 2, cells := 0, slots := 0, locals := 43 }
theorem sf_J0_checkIndex_df160 : sfacts RJ0 yJ0_checkIndex_df160 cJ0_checkIndex_df160 2 none 2 := ⟨⟨rfl, by decide +kernel, by decide +kernel, by decide +kernel⟩, gm_276, gm_5, gm_277⟩
set_option maxRecDepth 100000 in
set_option maxHeartbeats 4000000 in
theorem c_J1_charAt_3b067 (l : Launch) (D : va_G) (cI cB : ClassId) (aS aV : Nat) (k : Nat) (qk : k < 5) : Met l yJ1_charAt_3b067 (mw yJ1_charAt_3b067 cJ1_charAt_3b067 2 (some .char)) rm_J1_charAt_3b067 (RPE D cI cB aS aV (fun _ => False) ([]) [.ref aV, .int (nI k)]) (vp_Si (fun r => r = (nI (scN k)))) 0 0 (fun _ => False) := by
  refine met_ofE (by decide) (Nat.le_of_ble_eq_true rfl) ?_
  intro p e s m below meth c ls hx hb hr hml hown hg hlocks hin hK hE hP hl
  have hSr : va_S (fun _ => False) s.heap s.heap [] := va_S.rf
  have hown : s.vm.findClass RJ1 = some m.cls := hown
  have hl : lv_has ls 2 [(0, .ref aV), (1, .int (nI k))] := hl
  refine lv_iload_n hx hb dJ1_charAt_3b067_0 rfl (lv_at hl 1 rfl) ?_
  refine lv_aload_n hx hb dJ1_charAt_3b067_1 rfl (lv_at hl 0 rfl) ?_
  refine va_tlen (v := nI 5) hx hb (hE.1.1 0 (by decide)).2.2.2 hSr rfl dJ1_charAt_3b067_2 ?_
  refine rdSv (As := [.int (nI k), .int (nI 5)]) (rest := []) hx hb hml hown hg (c_J0_checkIndex_df160 l D cI cB aS aV k 5 (by first | assumption | omega) (by first | assumption | omega)) gm_275 sf_J0_checkIndex_df160 ⟨Nat.le_of_ble_eq_true rfl, Nat.le_of_ble_eq_true rfl⟩ ⟨rfl, rfl⟩ ⟨Nat.zero_le _, Nat.zero_le _⟩ (RPE.preS hK hE (fun k q h => by simp at h)) rfl hl.1 rfl (Nat.le_of_ble_eq_true rfl) dJ1_charAt_3b067_3 ?_
  refine lv_aload_n hx hb dJ1_charAt_3b067_6 rfl (lv_at hl 0 rfl) ?_
  refine lv_iload_n hx hb dJ1_charAt_3b067_7 rfl (lv_at hl 1 rfl) ?_
  refine va_tb (v := .int (nI (scN k))) hx hb (hE.1.1 0 (by decide)).2.2.2 hSr (vp_in_nI (by show _ < 5; omega) (by decide)) (by rw [nI_clamp (by omega)]; exact sc_at _ (by omega)) dJ1_charAt_3b067_8 ?_
  refine lv_sipush (v := (nI 255)) hx hb dJ1_charAt_3b067_9 (by decide) ?_
  refine lv_iand hx hb dJ1_charAt_3b067_12 ?_
  rw [show (((nI (scN k)) &&& (nI 255)) : Int32) = (nI (scN k)) from sc_and k qk]
  refine lv_i2c (v := (nI (scN k))) hx hb dJ1_charAt_3b067_13 (sc_chr k qk) ?_
  exact rr_z hx hb hr hlocks dJ1_charAt_3b067_14 (sc_nr5 k qk) rfl
abbrev rm_J0_charAt_5068e : Room := { frames := 4, cells := 0, slots := 0, locals := 85 }
theorem vf_J0_isLatin1_aae02 : vfacts RJ0 yJ0_isLatin1_aae02 cJ0_isLatin1_aae02 1 (some .boolean) 0 := ⟨⟨rfl, by decide +kernel, by decide +kernel, by decide +kernel⟩, gm_269, gm_270, gm_5, gm_271⟩
theorem sf_J1_charAt_3b067 : sfacts RJ1 yJ1_charAt_3b067 cJ1_charAt_3b067 2 (some .char) 2 := ⟨⟨rfl, by decide +kernel, by decide +kernel, by decide +kernel⟩, gm_273, gm_6, gm_274⟩
set_option maxRecDepth 100000 in
set_option maxHeartbeats 4000000 in
theorem c_J0_charAt_5068e (l : Launch) (D : va_G) (cI cB : ClassId) (aS aV : Nat) (k : Nat) (qk : k < 5) : Met l yJ0_charAt_5068e (mw yJ0_charAt_5068e cJ0_charAt_5068e 2 (some .char)) rm_J0_charAt_5068e (RPE D cI cB aS aV (fun _ => False) ([]) [.ref aS, .int (nI k)]) (vp_Si (fun r => r = (nI (scN k)))) 0 0 (fun _ => False) := by
  refine met_ofE (by decide) (Nat.le_of_ble_eq_true rfl) ?_
  intro p e s m below meth c ls hx hb hr hml hown hg hlocks hin hK hE hP hl
  have hSr : va_S (fun _ => False) s.heap s.heap [] := va_S.rf
  have hown : s.vm.findClass RJ0 = some m.cls := hown
  have hl : lv_has ls 2 [(0, .ref aS), (1, .int (nI k))] := hl
  refine lv_aload_n hx hb dJ0_charAt_5068e_0 rfl (lv_at hl 0 rfl) ?_
  refine rdV (As := []) (rest := []) hx hb hml hown hg (c_J0_isLatin1_aae02 l D cI cB aS aV) gm_268 vf_J0_isLatin1_aae02 ⟨Nat.le_of_ble_eq_true rfl, Nat.le_of_ble_eq_true rfl⟩ ⟨rfl, rfl⟩ ⟨Nat.zero_le _, Nat.zero_le _⟩ (RPE.preX hK hE (fun k q h => by simp at h)) rfl hl.1 rfl (Nat.le_of_ble_eq_true rfl) dJ0_charAt_5068e_1 ?_
  refine nv_if_eq (tgt := 16) hx hb dJ0_charAt_5068e_4 (by omega) (by decide) (fun c_4 => ?_) (fun c_4 => ?_)
  · exact absurd c_4 (by decide)
  · skip
    refine lv_aload_n hx hb dJ0_charAt_5068e_7 rfl (lv_at hl 0 rfl) ?_
    refine vk_getf (v := .ref aV) hx hb (hE.1.1 0 (by decide)).2.2.1 hSr hown (hg _ gm_354) (fun _ h9 => h9) dJ0_charAt_5068e_8 ?_
    refine lv_iload_n hx hb dJ0_charAt_5068e_11 rfl (lv_at hl 1 rfl) ?_
    refine rdS (As := [.ref aV, .int (nI k)]) (rest := []) hx hb hml hown hg (c_J1_charAt_3b067 l D cI cB aS aV k (by first | assumption | omega)) gm_272 sf_J1_charAt_3b067 ⟨Nat.le_of_ble_eq_true rfl, Nat.le_of_ble_eq_true rfl⟩ ⟨rfl, rfl⟩ ⟨Nat.zero_le _, Nat.zero_le _⟩ (RPE.preS hK hE (fun k q h => by simp at h)) rfl hl.1 rfl (Nat.le_of_ble_eq_true rfl) dJ0_charAt_5068e_12 ?_
    exact rr_z hx hb hr hlocks dJ0_charAt_5068e_15 (sc_nr5 k qk) rfl
abbrev rm_X2_kindOfLetter : Room := { frames := 5, cells := 0, slots := 0, locals := 106 }
theorem vf_J0_length_8abf5 : vfacts RJ0 yJ0_length_8abf5 cJ0_length_8abf5 1 (some .int) 0 := ⟨⟨rfl, by decide +kernel, by decide +kernel, by decide +kernel⟩, gm_256, gm_257, gm_5, gm_258⟩
theorem vf_J0_charAt_5068e : vfacts RJ0 yJ0_charAt_5068e cJ0_charAt_5068e 2 (some .char) 1 := ⟨⟨rfl, by decide +kernel, by decide +kernel, by decide +kernel⟩, gm_265, gm_266, gm_5, gm_267⟩
set_option maxRecDepth 100000 in
set_option maxHeartbeats 4000000 in
theorem c_X2_kindOfLetter (l : Launch) (D : va_G) (cI cB : ClassId) (aS aV : Nat) (x : Nat) (qx : x ≤ 126) : Met l yX2_kindOfLetter (mw yX2_kindOfLetter cX2_kindOfLetter 2 (some .int)) rm_X2_kindOfLetter (RPE D cI cB aS aV (fun _ => False) ([]) [.int (nI x)]) (vp_Si (fun r => r = (kindF x))) 0 0 (fun _ => False) := by
  refine met_ofE (by decide) (Nat.le_of_ble_eq_true rfl) ?_
  intro p e s m below meth c ls hx hb hr hml hown hg hlocks hin hK hE hP hl
  have hSr : va_S (fun _ => False) s.heap s.heap [] := va_S.rf
  have hown : s.vm.findClass RX2 = some m.cls := hown
  have hl : lv_has ls 2 [(0, .int (nI x))] := hl
  refine lv_iconst (v := (nI 0)) hx hb dX2_kindOfLetter_0 (by decide) ?_
  refine lv_istore_n (lv' := [(1, .int (nI 0)), (0, .int (nI x))]) hx hb dX2_kindOfLetter_1 rfl hl (by decide) rfl (fun ls hl => ?_)
  -- loop at 2
  refine loopR (nL := 2) (B := 5) (I := fun i => ∀ k, k < i → ¬ scN k = x) (lv := fun i => [(0, .int (nI x)), (1, .int (nI i))]) 0 (Nat.zero_le _) (fun k h => by omega) (lv_sub hl [1, 0] rfl) (fun i ls hj hI hl ih => ?_)
  have hl : lv_has ls 2 [(0, .int (nI x)), (1, .int (nI i))] := hl
  have hI : ∀ k, k < i → ¬ scN k = x := hI
  have ih_2 := ih
  refine lv_iload_n hx hb dX2_kindOfLetter_2 rfl (lv_at hl 1 rfl) ?_
  refine va_ldcS hx hb hown hK.2.2.2 dX2_kindOfLetter_3 ?_
  refine rdV (As := []) (rest := [.int (nI i)]) hx hb hml hown hg (c_J0_length_8abf5 l D cI cB aS aV) gm_255 vf_J0_length_8abf5 ⟨Nat.le_of_ble_eq_true rfl, Nat.le_of_ble_eq_true rfl⟩ ⟨rfl, rfl⟩ ⟨Nat.zero_le _, Nat.zero_le _⟩ (RPE.preX hK hE (fun k q h => by simp at h)) rfl hl.1 rfl (Nat.le_of_ble_eq_true rfl) dX2_kindOfLetter_5 ?_
  refine nv_icmp_ge (tgt := 29) hx hb dX2_kindOfLetter_8 (by omega) (by omega) (by decide) (fun c_8 => ?_) (fun c_8 => ?_)
  · skip
    refine lv_iconst (v := (-1)) hx hb dX2_kindOfLetter_29 (by decide) ?_
    exact rr_i hx hb hr hlocks dX2_kindOfLetter_30 ((kind_no (fun k h => hI k (by omega))).symm)
  · skip
    refine va_ldcS hx hb hown hK.2.2.2 dX2_kindOfLetter_11 ?_
    refine lv_iload_n hx hb dX2_kindOfLetter_13 rfl (lv_at hl 1 rfl) ?_
    refine rdV (As := [.int (nI i)]) (rest := []) hx hb hml hown hg (c_J0_charAt_5068e l D cI cB aS aV i (by first | assumption | omega)) gm_264 vf_J0_charAt_5068e ⟨Nat.le_of_ble_eq_true rfl, Nat.le_of_ble_eq_true rfl⟩ ⟨rfl, rfl⟩ ⟨Nat.zero_le _, Nat.zero_le _⟩ (RPE.preX hK hE (fun k q h => by simp at h)) rfl hl.1 rfl (Nat.le_of_ble_eq_true rfl) dX2_kindOfLetter_14 ?_
    refine lv_iload_n hx hb dX2_kindOfLetter_17 rfl (lv_at hl 0 rfl) ?_
    refine nv_icmp_ne (tgt := 23) hx hb dX2_kindOfLetter_18 (by have := scN_lt i (by omega); omega) (by omega) (by decide) (fun c_18 => ?_) (fun c_18 => ?_)
    · skip
      refine lv_iinc (v := (nI (i + 1))) (lv' := [(1, .int (nI (i + 1))), (0, .int (nI x))]) hx hb dX2_kindOfLetter_23 hl (k := 1) rfl (nI_i1 _) (by decide) rfl (fun ls hl => ?_)
      refine lv_goto (tgt := 2) hx hb dX2_kindOfLetter_26 (by decide) ?_
      exact ih_2 _ (by omega) ((fun k h => by rcases Nat.lt_succ_iff_lt_or_eq.mp h with h | h; exact hI k h; rw [h]; exact c_18)) (lv_sub hl [1, 0] rfl)
    · skip
      refine lv_iload_n hx hb dX2_kindOfLetter_21 rfl (lv_at hl 1 rfl) ?_
      exact rr_i hx hb hr hlocks dX2_kindOfLetter_22 (by rw [← c_18]; exact (kind_at i (by omega)).symm)
abbrev rm_X2_canStandAt : Room := { frames := 6, cells := 0, slots := 0, locals := 127 }
theorem sf_X2_kindOfLetter : sfacts RX2 yX2_kindOfLetter cX2_kindOfLetter 2 (some .int) 1 := ⟨⟨rfl, by decide +kernel, by decide +kernel, by decide +kernel⟩, gm_252, gm_2, gm_253⟩
set_option maxRecDepth 100000 in
set_option maxHeartbeats 4000000 in
theorem c_X2_canStandAt (l : Launch) (D : va_G) (cI cB : ClassId) (aS aV : Nat) (k x : Nat) (qk : k < 19) (qx : x ≤ 126) : Met l yX2_canStandAt (mw yX2_canStandAt cX2_canStandAt 2 (some .boolean)) rm_X2_canStandAt (RPE D cI cB aS aV (fun _ => False) ([]) [.int (nI k), .int (nI x)]) (vp_Si (fun r => r = (bi (gdX k x = true)))) 0 0 (fun _ => False) := by
  refine met_ofE (by decide) (Nat.le_of_ble_eq_true rfl) ?_
  intro p e s m below meth c ls hx hb hr hml hown hg hlocks hin hK hE hP hl
  have hSr : va_S (fun _ => False) s.heap s.heap [] := va_S.rf
  have hown : s.vm.findClass RX2 = some m.cls := hown
  have hl : lv_has ls 2 [(0, .int (nI k)), (1, .int (nI x))] := hl
  refine lv_iload_n hx hb dX2_canStandAt_0 rfl (lv_at hl 0 rfl) ?_
  refine lv_bipush (v := (nI 17)) hx hb dX2_canStandAt_1 (by decide) ?_
  refine nv_icmp_lt (tgt := 8) hx hb dX2_canStandAt_3 (by omega) (by omega) (by decide) (fun c_3 => ?_) (fun c_3 => ?_)
  · skip
    refine lv_iload_n hx hb dX2_canStandAt_8 rfl (lv_at hl 0 rfl) ?_
    refine lv_iconst (v := (nI 3)) hx hb dX2_canStandAt_9 (by decide) ?_
    refine nv_irem hx hb dX2_canStandAt_10 (by omega) (by omega) (by omega) ?_
    by_cases c_11_0 : k % 3 = 0
    · refine lv_lookup (off := 25) (tgt := 36) hx hb dX2_canStandAt_11 (by decide) (by rw [c_11_0]; decide) (by decide) ?_
      refine lv_iload_n hx hb dX2_canStandAt_36 rfl (lv_at hl 1 rfl) ?_
      refine rdS (As := [.int (nI x)]) (rest := []) hx hb hml hown hg (c_X2_kindOfLetter l D cI cB aS aV x (by first | assumption | omega)) gm_251 sf_X2_kindOfLetter ⟨Nat.le_of_ble_eq_true rfl, Nat.le_of_ble_eq_true rfl⟩ ⟨rfl, rfl⟩ ⟨Nat.zero_le _, Nat.zero_le _⟩ (RPE.preS hK hE (fun k q h => by simp at h)) rfl hl.1 rfl (Nat.le_of_ble_eq_true rfl) dX2_canStandAt_37 ?_
      refine lv_iconst (v := (-1)) hx hb dX2_canStandAt_40 (by decide) ?_
      refine lv_icmp_eq (tgt := 48) hx hb dX2_canStandAt_41 (by decide) (fun c_41 => ?_) (fun c_41 => ?_)
      · skip
        refine lv_iconst (v := (nI 0)) hx hb dX2_canStandAt_48 (by decide) ?_
        exact rr_z hx hb hr hlocks dX2_canStandAt_49 bi_nar (ret_f (fun q => (gdX_0 c_3 c_11_0).mp q c_41))
      · skip
        refine lv_iconst (v := (nI 1)) hx hb dX2_canStandAt_44 (by decide) ?_
        refine lv_goto (tgt := 49) hx hb dX2_canStandAt_45 (by decide) ?_
        exact rr_z hx hb hr hlocks dX2_canStandAt_49 bi_nar (ret_t ((gdX_0 c_3 c_11_0).mpr c_41))
    by_cases c_11_1 : k % 3 = 1
    · refine lv_lookup (off := 39) (tgt := 50) hx hb dX2_canStandAt_11 (by decide) (by rw [c_11_1]; decide) (by decide) ?_
      refine lv_iload_n hx hb dX2_canStandAt_50 rfl (lv_at hl 1 rfl) ?_
      refine lv_bipush (v := (nI 48)) hx hb dX2_canStandAt_51 (by decide) ?_
      refine nv_icmp_lt (tgt := 66) hx hb dX2_canStandAt_53 (by omega) (by omega) (by decide) (fun c_53 => ?_) (fun c_53 => ?_)
      · skip
        refine lv_iconst (v := (nI 0)) hx hb dX2_canStandAt_66 (by decide) ?_
        exact rr_z hx hb hr hlocks dX2_canStandAt_67 bi_nar (ret_f (fun q => by have := (gdX_1 c_3 c_11_1).mp q; omega))
      · skip
        refine lv_iload_n hx hb dX2_canStandAt_56 rfl (lv_at hl 1 rfl) ?_
        refine lv_bipush (v := (nI 57)) hx hb dX2_canStandAt_57 (by decide) ?_
        refine nv_icmp_gt (tgt := 66) hx hb dX2_canStandAt_59 (by omega) (by omega) (by decide) (fun c_59 => ?_) (fun c_59 => ?_)
        · skip
          refine lv_iconst (v := (nI 0)) hx hb dX2_canStandAt_66 (by decide) ?_
          exact rr_z hx hb hr hlocks dX2_canStandAt_67 bi_nar (ret_f (fun q => by have := (gdX_1 c_3 c_11_1).mp q; omega))
        · skip
          refine lv_iconst (v := (nI 1)) hx hb dX2_canStandAt_62 (by decide) ?_
          refine lv_goto (tgt := 67) hx hb dX2_canStandAt_63 (by decide) ?_
          exact rr_z hx hb hr hlocks dX2_canStandAt_67 bi_nar (ret_t ((gdX_1 c_3 c_11_1).mpr (by omega)))
    have q_11_0 : ¬ nI (k % 3) = nI 0 := fun h => c_11_0 ((nI_eq (by omega) (by omega)).mp h)
    have q_11_1 : ¬ nI (k % 3) = nI 1 := fun h => c_11_1 ((nI_eq (by omega) (by omega)).mp h)
    refine lv_lookup (off := 57) (tgt := 68) hx hb dX2_canStandAt_11 (by decide) (by show Op.lookupswitch.offset [(0, 25), (1, 39)] 57 _ = 57; rw [lv_osw (a := 0) (q_11_0) (by decide), lv_osw (a := 1) (q_11_1) (by decide)]; rfl) (by decide) ?_
    refine lv_iload_n hx hb dX2_canStandAt_68 rfl (lv_at hl 1 rfl) ?_
    refine lv_bipush (v := (nI 44)) hx hb dX2_canStandAt_69 (by decide) ?_
    refine nv_icmp_ne (tgt := 78) hx hb dX2_canStandAt_71 (by omega) (by omega) (by decide) (fun c_71 => ?_) (fun c_71 => ?_)
    · skip
      refine lv_iconst (v := (nI 0)) hx hb dX2_canStandAt_78 (by decide) ?_
      exact rr_z hx hb hr hlocks dX2_canStandAt_79 bi_nar (ret_f (fun q => c_71 ((gdX_2 c_3 c_11_0 c_11_1).mp q)))
    · skip
      refine lv_iconst (v := (nI 1)) hx hb dX2_canStandAt_74 (by decide) ?_
      refine lv_goto (tgt := 79) hx hb dX2_canStandAt_75 (by decide) ?_
      exact rr_z hx hb hr hlocks dX2_canStandAt_79 bi_nar (ret_t ((gdX_2 c_3 c_11_0 c_11_1).mpr c_71))
  · skip
    refine lv_iconst (v := (nI 0)) hx hb dX2_canStandAt_6 (by decide) ?_
    exact rr_z hx hb hr hlocks dX2_canStandAt_7 bi_nar (ret_f (gdX_n (by omega)))
abbrev rm_X2_fault : Room := { frames := 7, cells := 0, slots := 0, locals := 148 }
theorem sf_X2_canStandAt : sfacts RX2 yX2_canStandAt cX2_canStandAt 2 (some .boolean) 2 := ⟨⟨rfl, by decide +kernel, by decide +kernel, by decide +kernel⟩, gm_249, gm_2, gm_250⟩
set_option maxRecDepth 100000 in
set_option maxHeartbeats 4000000 in
theorem c_X2_fault (l : Launch) (D : va_G) (cI cB : ClassId) (aS aV : Nat) (a : Nat → Nat) (pl n st : Nat) (ik : Int32) (td nd nh : Nat) (bs : Int32) (ktd knd knh : Nat) (kbs : Int32) (pg kd ag pa bo dm dn hh hn kag kpa kbo kdm kdn khh khn wb ps ty : Nat → Int32)  (qpl : pl ≤ 19) (qpg : pgOK pg pl) : Met l yX2_fault (mw yX2_fault cX2_fault 2 (some .int)) rm_X2_fault (RPE D cI cB aS aV (fun _ => False) (XW cI a pl n st ik td nd nh bs ktd knd knh kbs pg kd ag pa bo dm dn hh hn kag kpa kbo kdm kdn khh khn wb ps ty) [.ref (a 0)]) (vp_Si (fun r => r = (nI (ftF pg pl)))) 0 0 (fun _ => False) := by
  refine met_ofE (by decide) (Nat.le_of_ble_eq_true rfl) ?_
  intro p e s m below meth c ls hx hb hr hml hown hg hlocks hin hK hE hP hl
  have hSr : va_S (fun _ => False) s.heap s.heap [] := va_S.rf
  have hown : s.vm.findClass RX2 = some m.cls := hown
  have hl : lv_has ls 2 [(0, .ref (a 0))] := hl
  refine lv_iconst (v := (nI 0)) hx hb dX2_fault_0 (by decide) ?_
  refine lv_istore_n (lv' := [(1, .int (nI 0)), (0, .ref (a 0))]) hx hb dX2_fault_1 rfl hl (by decide) rfl (fun ls hl => ?_)
  -- loop at 2
  refine loopR (nL := 2) (B := pl) (I := fun i => ∀ j, j < i → gdX j (pg j).toNatClampNeg = true) (lv := fun i => [(0, .ref (a 0)), (1, .int (nI i))]) 0 (Nat.zero_le _) (fun j h => by omega) (lv_sub hl [1, 0] rfl) (fun i ls hj hI hl ih => ?_)
  have hl : lv_has ls 2 [(0, .ref (a 0)), (1, .int (nI i))] := hl
  have hI : ∀ j, j < i → gdX j (pg j).toNatClampNeg = true := hI
  have ih_2 := ih
  refine lv_iload_n hx hb dX2_fault_2 rfl (lv_at hl 1 rfl) ?_
  refine lv_aload_n hx hb dX2_fault_3 rfl (lv_at hl 0 rfl) ?_
  refine va_get (D := D) (ci := 2) (v := .int (nI pl)) (C := RX2) (T := TX2) (N := 11) hx hb hg us_X2 hown hK.1 hP 0 XW_g0 rfl 1 (by decide) (hg _ gm_67) (fun _ h9 => h9) rfl dX2_fault_4 ?_
  refine nv_icmp_ge (tgt := 33) hx hb dX2_fault_7 (by omega) (by omega) (by decide) (fun c_7 => ?_) (fun c_7 => ?_)
  · skip
    refine lv_aload_n hx hb dX2_fault_33 rfl (lv_at hl 0 rfl) ?_
    refine va_get (D := D) (ci := 2) (v := .int (nI pl)) (C := RX2) (T := TX2) (N := 11) hx hb hg us_X2 hown hK.1 hP 0 XW_g0 rfl 1 (by decide) (hg _ gm_67) (fun _ h9 => h9) rfl dX2_fault_34 ?_
    exact rr_i hx hb hr hlocks dX2_fault_37 (by unfold ftF; rw [fz_all (fun j _ h => hI j (by omega)), Nat.zero_add])
  · skip
    refine lv_iload_n hx hb dX2_fault_10 rfl (lv_at hl 1 rfl) ?_
    refine lv_aload_n hx hb dX2_fault_11 rfl (lv_at hl 0 rfl) ?_
    refine va_get (D := D) (ci := 2) (v := .ref (a 1)) (C := RX2) (T := TX2) (N := 11) hx hb hg us_X2 hown hK.1 hP 0 XW_g0 rfl 0 (by decide) (hg _ gm_66) (fun _ h9 => h9) rfl dX2_fault_12 ?_
    refine lv_iload_n hx hb dX2_fault_15 rfl (lv_at hl 1 rfl) ?_
    have hP_1 : va_P D vwCl [(a 1, .inr (1, [.ref (a 2)])), (a 2, .inl (cI, 19, .inl pg))] _ := P_s2 hP XW_g1 XW_g2
    refine rdV (As := [.int (nI i)]) (rest := [.int (nI i)]) hx hb hml hown hg (c_X1_at l D cI cB aS (a 1) (a 2) 19 pg i (by first | assumption | omega) (by first | assumption | omega)) gm_95 vf_X1_at ⟨Nat.le_of_ble_eq_true rfl, Nat.le_of_ble_eq_true rfl⟩ ⟨rfl, rfl⟩ ⟨Nat.zero_le _, Nat.zero_le _⟩ (RP.preV hK hP_1 (q0 := 0) (ci := 1) rfl rfl) rfl hl.1 rfl (Nat.le_of_ble_eq_true rfl) dX2_fault_16 ?_
    rw [show ((pg i) : Int32) = (nI ((pg i).toNatClampNeg)) from (qpg i (by omega)).1]
    refine rdS (As := [.int (nI i), .int (nI ((pg i).toNatClampNeg))]) (rest := []) hx hb hml hown hg (c_X2_canStandAt l D cI cB aS aV i ((pg i).toNatClampNeg) (by first | assumption | omega) (qpg i (by omega)).2.2) gm_248 sf_X2_canStandAt ⟨Nat.le_of_ble_eq_true rfl, Nat.le_of_ble_eq_true rfl⟩ ⟨rfl, rfl⟩ ⟨Nat.zero_le _, Nat.zero_le _⟩ (RPE.preS hK hE (fun k q h => by simp at h)) rfl hl.1 rfl (Nat.le_of_ble_eq_true rfl) dX2_fault_19 ?_
    refine bv_if_ne (tgt := 27) hx hb dX2_fault_22 (by decide) (fun c_22 => ?_) (fun c_22 => ?_)
    · skip
      refine lv_iinc (v := (nI (i + 1))) (lv' := [(1, .int (nI (i + 1))), (0, .ref (a 0))]) hx hb dX2_fault_27 hl (k := 1) rfl (nI_i1 _) (by decide) rfl (fun ls hl => ?_)
      refine lv_goto (tgt := 2) hx hb dX2_fault_30 (by decide) ?_
      exact ih_2 _ (by omega) ((fun j h => by rcases Nat.lt_succ_iff_lt_or_eq.mp h with h | h; exact hI j h; rw [h]; exact c_22)) (lv_sub hl [1, 0] rfl)
    · skip
      refine lv_iload_n hx hb dX2_fault_25 rfl (lv_at hl 1 rfl) ?_
      exact rr_i hx hb hr hlocks dX2_fault_26 (by unfold ftF; rw [fz_go (k := i) (by omega) (by omega) (fun j _ h => hI j h) (Bool.eq_false_iff.mpr c_22)])
abbrev rm_X2_housesOnPage : Room := { frames := 8, cells := 0, slots := 0, locals := 169 }
theorem vf_X2_fault : vfacts RX2 yX2_fault cX2_fault 2 (some .int) 0 := ⟨⟨rfl, by decide +kernel, by decide +kernel, by decide +kernel⟩, gm_245, gm_246, gm_2, gm_247⟩
set_option maxRecDepth 100000 in
set_option maxHeartbeats 4000000 in
theorem c_X2_housesOnPage (l : Launch) (D : va_G) (cI cB : ClassId) (aS aV : Nat) (a : Nat → Nat) (pl n st : Nat) (ik : Int32) (td nd nh : Nat) (bs : Int32) (ktd knd knh : Nat) (kbs : Int32) (pg kd ag pa bo dm dn hh hn kag kpa kbo kdm kdn khh khn wb ps ty : Nat → Int32)  (qpl : pl ≤ 19) (qpg : pgOK pg pl) : Met l yX2_housesOnPage (mw yX2_housesOnPage cX2_housesOnPage 2 (some .int)) rm_X2_housesOnPage (RPE D cI cB aS aV (fun _ => False) (XW cI a pl n st ik td nd nh bs ktd knd knh kbs pg kd ag pa bo dm dn hh hn kag kpa kbo kdm kdn khh khn wb ps ty) [.ref (a 0)]) (vp_Si (fun r => r = (nI (if pl % 3 = 2 ∧ ftF pg pl = pl then (pl + 1) / 3 else 0)))) 0 0 (fun _ => False) := by
  refine met_ofE (by decide) (Nat.le_of_ble_eq_true rfl) ?_
  intro p e s m below meth c ls hx hb hr hml hown hg hlocks hin hK hE hP hl
  have hSr : va_S (fun _ => False) s.heap s.heap [] := va_S.rf
  have hown : s.vm.findClass RX2 = some m.cls := hown
  have hl : lv_has ls 2 [(0, .ref (a 0))] := hl
  refine lv_aload_n hx hb dX2_housesOnPage_0 rfl (lv_at hl 0 rfl) ?_
  refine va_get (D := D) (ci := 2) (v := .int (nI pl)) (C := RX2) (T := TX2) (N := 11) hx hb hg us_X2 hown hK.1 hP 0 XW_g0 rfl 1 (by decide) (hg _ gm_67) (fun _ h9 => h9) rfl dX2_housesOnPage_1 ?_
  refine lv_iconst (v := (nI 3)) hx hb dX2_housesOnPage_4 (by decide) ?_
  refine nv_irem hx hb dX2_housesOnPage_5 (by omega) (by omega) (by omega) ?_
  refine lv_iconst (v := (nI 2)) hx hb dX2_housesOnPage_6 (by decide) ?_
  refine nv_icmp_ne (tgt := 14) hx hb dX2_housesOnPage_7 (by omega) (by omega) (by decide) (fun c_7 => ?_) (fun c_7 => ?_)
  · skip
    refine lv_iconst (v := (nI 0)) hx hb dX2_housesOnPage_14 (by decide) ?_
    refine lv_istore_n (lv' := [(1, .int (nI 0)), (0, .ref (a 0))]) hx hb dX2_housesOnPage_15 rfl hl (by decide) rfl (fun ls hl => ?_)
    refine lv_iload_n hx hb dX2_housesOnPage_16 rfl (lv_at hl 0 rfl) ?_
    refine nv_if_eq (tgt := 31) hx hb dX2_housesOnPage_17 (by omega) (by decide) (fun c_17 => ?_) (fun c_17 => ?_)
    · skip
      refine lv_iconst (v := (nI 0)) hx hb dX2_housesOnPage_31 (by decide) ?_
      exact rr_i hx hb hr hlocks dX2_housesOnPage_32 (by rw [if_neg (fun q => c_7 q.1)])
    · exact absurd rfl c_17
  · skip
    refine lv_iconst (v := (nI 1)) hx hb dX2_housesOnPage_10 (by decide) ?_
    refine lv_goto (tgt := 15) hx hb dX2_housesOnPage_11 (by decide) ?_
    refine lv_istore_n (lv' := [(1, .int (nI 1)), (0, .ref (a 0))]) hx hb dX2_housesOnPage_15 rfl hl (by decide) rfl (fun ls hl => ?_)
    refine lv_iload_n hx hb dX2_housesOnPage_16 rfl (lv_at hl 0 rfl) ?_
    refine nv_if_eq (tgt := 31) hx hb dX2_housesOnPage_17 (by omega) (by decide) (fun c_17 => ?_) (fun c_17 => ?_)
    · exact absurd c_17 (by decide)
    · skip
      refine lv_aload_n hx hb dX2_housesOnPage_20 rfl (lv_at hl 1 rfl) ?_
      refine rdV (As := []) (rest := []) hx hb hml hown hg (c_X2_fault l D cI cB aS aV _ pl n st ik td nd nh bs ktd knd knh kbs pg kd ag pa bo dm dn hh hn kag kpa kbo kdm kdn khh khn wb ps ty (by first | assumption | omega) (by first | assumption | omega)) gm_305 vf_X2_fault ⟨Nat.le_of_ble_eq_true rfl, Nat.le_of_ble_eq_true rfl⟩ ⟨rfl, rfl⟩ ⟨Nat.zero_le _, Nat.zero_le _⟩ (RPE.preV hK hE hP (q0 := 0) (ci := 2) XW_g0 rfl) rfl hl.1 rfl (Nat.le_of_ble_eq_true rfl) dX2_housesOnPage_21 ?_
      refine lv_aload_n hx hb dX2_housesOnPage_24 rfl (lv_at hl 1 rfl) ?_
      refine va_get (D := D) (ci := 2) (v := .int (nI pl)) (C := RX2) (T := TX2) (N := 11) hx hb hg us_X2 hown hK.1 hP 0 XW_g0 rfl 1 (by decide) (hg _ gm_67) (fun _ h9 => h9) rfl dX2_housesOnPage_25 ?_
      refine nv_icmp_eq (tgt := 33) hx hb dX2_housesOnPage_28 (by have := fz_le (p := fun k => gdX k (pg k).toNatClampNeg) (n := pl) (lo := 0); unfold ftF; omega) (by omega) (by decide) (fun c_28 => ?_) (fun c_28 => ?_)
      · skip
        refine lv_aload_n hx hb dX2_housesOnPage_33 rfl (lv_at hl 1 rfl) ?_
        refine va_get (D := D) (ci := 2) (v := .int (nI pl)) (C := RX2) (T := TX2) (N := 11) hx hb hg us_X2 hown hK.1 hP 0 XW_g0 rfl 1 (by decide) (hg _ gm_67) (fun _ h9 => h9) rfl dX2_housesOnPage_34 ?_
        refine lv_iconst (v := (nI 1)) hx hb dX2_housesOnPage_37 (by decide) ?_
        refine nv_iadd hx hb dX2_housesOnPage_38 ?_
        refine lv_iconst (v := (nI 3)) hx hb dX2_housesOnPage_39 (by decide) ?_
        refine nv_idiv hx hb dX2_housesOnPage_40 (by omega) (by omega) (by omega) ?_
        exact rr_i hx hb hr hlocks dX2_housesOnPage_41 (by rw [if_pos ⟨c_7, c_28⟩])
      · skip
        refine lv_iconst (v := (nI 0)) hx hb dX2_housesOnPage_31 (by decide) ?_
        exact rr_i hx hb hr hlocks dX2_housesOnPage_32 (by rw [if_neg (fun q => c_28 q.2)])
abbrev rm_X2_street : Room := { frames := 9, cells := 0, slots := 0, locals := 190 }
theorem vf_X2_housesOnPage : vfacts RX2 yX2_housesOnPage cX2_housesOnPage 2 (some .int) 0 := ⟨⟨rfl, by decide +kernel, by decide +kernel, by decide +kernel⟩, gm_303, gm_374, gm_2, gm_304⟩
theorem XW_set_13 {cI : ClassId} {a : Nat → Nat} {pl n st : Nat} {ik : Int32} {td nd nh : Nat} {bs : Int32} {ktd knd knh : Nat} {kbs : Int32} {pg kd ag pa bo dm dn hh hn kag kpa kbo kdm kdn khh khn wb ps ty : Nat → Int32} {z0 : Nat} : List.set (XW cI a pl n st ik td nd nh bs ktd knd knh kbs pg kd ag pa bo dm dn hh hn kag kpa kbo kdm kdn khh khn wb ps ty) 0 (a 0, .inr (2, List.set [.ref (a 1), .int (nI pl), .int (nI n), .int (nI st), .ref (a 3), .ref (a 5), .ref (a 20), .int ik, .ref (a 35), .ref (a 37), .ref (a 39)] 2 (.int (nI z0)))) = XW cI a pl z0 st ik td nd nh bs ktd knd knh kbs pg kd ag pa bo dm dn hh hn kag kpa kbo kdm kdn khh khn wb ps ty := rfl
theorem vf_X0_startAnew : vfacts RX0 yX0_startAnew cX0_startAnew 1 none 0 := ⟨⟨rfl, by decide +kernel, by decide +kernel, by decide +kernel⟩, gm_307, gm_308, gm_4, gm_309⟩
theorem XW_wsets_14 {cI : ClassId} {a : Nat → Nat} {pl n st : Nat} {ik : Int32} {td nd nh : Nat} {bs : Int32} {ktd knd knh : Nat} {kbs : Int32} {pg kd ag pa bo dm dn hh hn kag kpa kbo kdm kdn khh khn wb ps ty : Nat → Int32} {z0 : Nat} {z1 : Int32} {z2 : Nat} {z3 : Nat} {z4 : Nat → Int32} : wsets (XW cI a pl n st ik td nd nh bs ktd knd knh kbs pg kd ag pa bo dm dn hh hn kag kpa kbo kdm kdn khh khn wb ps ty) [5, 8, 15] [(a 5, .inr (0, [.int (nI z0), .int z1, .int (nI z2), .int (nI z3), .ref (a 6), .ref (a 7), .ref (a 8), .ref (a 9), .ref (a 10), .ref (a 11), .ref (a 12)])), (a 8, .inr (1, [.ref (a 15)])), (a 15, .inl (cI, 6, .inl z4))] = XW cI a pl n st ik z0 z2 z3 z1 ktd knd knh kbs pg kd ag pa z4 dm dn hh hn kag kpa kbo kdm kdn khh khn wb ps ty := rfl
theorem XW_set_15 {cI : ClassId} {a : Nat → Nat} {pl n st : Nat} {ik : Int32} {td nd nh : Nat} {bs : Int32} {ktd knd knh : Nat} {kbs : Int32} {pg kd ag pa bo dm dn hh hn kag kpa kbo kdm kdn khh khn wb ps ty : Nat → Int32} {z0 : Int32} : List.set (XW cI a pl n st ik td nd nh bs ktd knd knh kbs pg kd ag pa bo dm dn hh hn kag kpa kbo kdm kdn khh khn wb ps ty) 0 (a 0, .inr (2, List.set [.ref (a 1), .int (nI pl), .int (nI n), .int (nI st), .ref (a 3), .ref (a 5), .ref (a 20), .int ik, .ref (a 35), .ref (a 37), .ref (a 39)] 7 (.int z0))) = XW cI a pl n st z0 td nd nh bs ktd knd knh kbs pg kd ag pa bo dm dn hh hn kag kpa kbo kdm kdn khh khn wb ps ty := rfl
theorem XW_set_16 {cI : ClassId} {a : Nat → Nat} {pl n st : Nat} {ik : Int32} {td nd nh : Nat} {bs : Int32} {ktd knd knh : Nat} {kbs : Int32} {pg kd ag pa bo dm dn hh hn kag kpa kbo kdm kdn khh khn wb ps ty : Nat → Int32} {z0 : Nat} : List.set (XW cI a pl n st ik td nd nh bs ktd knd knh kbs pg kd ag pa bo dm dn hh hn kag kpa kbo kdm kdn khh khn wb ps ty) 0 (a 0, .inr (2, List.set [.ref (a 1), .int (nI pl), .int (nI n), .int (nI st), .ref (a 3), .ref (a 5), .ref (a 20), .int ik, .ref (a 35), .ref (a 37), .ref (a 39)] 3 (.int (nI z0)))) = XW cI a pl n z0 ik td nd nh bs ktd knd knh kbs pg kd ag pa bo dm dn hh hn kag kpa kbo kdm kdn khh khn wb ps ty := rfl
theorem XW_wsets_17 {cI : ClassId} {a : Nat → Nat} {pl n st : Nat} {ik : Int32} {td nd nh : Nat} {bs : Int32} {ktd knd knh : Nat} {kbs : Int32} {pg kd ag pa bo dm dn hh hn kag kpa kbo kdm kdn khh khn wb ps ty : Nat → Int32} {z0 : Nat → Int32} : wsets (XW cI a pl n st ik td nd nh bs ktd knd knh kbs pg kd ag pa bo dm dn hh hn kag kpa kbo kdm kdn khh khn wb ps ty) [3, 4] [(a 3, .inr (1, [.ref (a 4)])), (a 4, .inl (cI, 6, .inl z0))] = XW cI a pl n st ik td nd nh bs ktd knd knh kbs pg z0 ag pa bo dm dn hh hn kag kpa kbo kdm kdn khh khn wb ps ty := rfl
theorem XW_wsets_18 {cI : ClassId} {a : Nat → Nat} {pl n st : Nat} {ik : Int32} {td nd nh : Nat} {bs : Int32} {ktd knd knh : Nat} {kbs : Int32} {pg kd ag pa bo dm dn hh hn kag kpa kbo kdm kdn khh khn wb ps ty : Nat → Int32} {z0 : Nat → Int32} : wsets (XW cI a pl n st ik td nd nh bs ktd knd knh kbs pg kd ag pa bo dm dn hh hn kag kpa kbo kdm kdn khh khn wb ps ty) [6, 13] [(a 6, .inr (1, [.ref (a 13)])), (a 13, .inl (cI, 6, .inl z0))] = XW cI a pl n st ik td nd nh bs ktd knd knh kbs pg kd z0 pa bo dm dn hh hn kag kpa kbo kdm kdn khh khn wb ps ty := rfl
set_option maxRecDepth 100000 in
set_option maxHeartbeats 4000000 in
theorem c_X2_street (l : Launch) (D : va_G) (cI cB : ClassId) (aS aV : Nat) (a : Nat → Nat) (pl n st : Nat) (ik : Int32) (td nd nh : Nat) (bs : Int32) (ktd knd knh : Nat) (kbs : Int32) (pg kd ag pa bo dm dn hh hn kag kpa kbo kdm kdn khh khn wb ps ty : Nat → Int32)  (hD0 : va_D (fun _ => True) (XW cI a pl n st ik td nd nh bs ktd knd knh kbs pg kd ag pa bo dm dn hh hn kag kpa kbo kdm kdn khh khn wb ps ty)) (qpl : pl ≤ 19) (qpg : pgOK pg pl) : Met l yX2_street (mw yX2_street cX2_street 4 (some .int)) rm_X2_street (RPE D cI cB aS aV (inW (XW cI a pl n st ik td nd nh bs ktd knd knh kbs pg kd ag pa bo dm dn hh hn kag kpa kbo kdm kdn khh khn wb ps ty)) (XW cI a pl n st ik td nd nh bs ktd knd knh kbs pg kd ag pa bo dm dn hh hn kag kpa kbo kdm kdn khh khn wb ps ty) [.ref (a 0)]) (wq mkI (XW cI a pl n st ik td nd nh bs ktd knd knh kbs pg kd ag pa bo dm dn hh hn kag kpa kbo kdm kdn khh khn wb ps ty) (fun (u : Bool) => cond u (XW cI a 0 ((pl + 1) / 3) (st + 1) (nI 0) 0 0 0 (nI 0) ktd knd knh kbs pg (cpF (stK pg) kd ((pl + 1) / 3)) (cpF (stA pg) ag ((pl + 1) / 3)) pa (fun _ => nI 0) dm dn hh hn kag kpa kbo kdm kdn khh khn wb ps ty) (XW cI a pl n st ik td nd nh bs ktd knd knh kbs pg kd ag pa bo dm dn hh hn kag kpa kbo kdm kdn khh khn wb ps ty)) D (fun (r : Int32) (u : Bool) => (stOK pg pl ∧ r = nI ((pl + 1) / 3) ∧ u = true) ∨ (¬ stOK pg pl ∧ r = -103 ∧ u = false))) 0 0 (inW (XW cI a pl n st ik td nd nh bs ktd knd knh kbs pg kd ag pa bo dm dn hh hn kag kpa kbo kdm kdn khh khn wb ps ty)) := by
  refine met_ofE (by decide) (Nat.le_of_ble_eq_true rfl) ?_
  intro p e s m below meth c ls hx hb hr hml hown hg hlocks hin hK hE hP hl
  have hown : s.vm.findClass RX2 = some m.cls := hown
  have hl : lv_has ls 4 [(0, .ref (a 0))] := hl
  have hD := hD0.here
  have hS0 : va_S (inW (XW cI a pl n st ik td nd nh bs ktd knd knh kbs pg kd ag pa bo dm dn hh hn kag kpa kbo kdm kdn khh khn wb ps ty)) s.heap s.heap [] := va_S.rf
  obtain ⟨H, hH⟩ : ∃ H, H = s.heap := ⟨_, rfl⟩
  have hS : va_S (inW (XW cI a pl n st ik td nd nh bs ktd knd knh kbs pg kd ag pa bo dm dn hh hn kag kpa kbo kdm kdn khh khn wb ps ty)) s.heap H [] := by rw [hH]; exact hS0
  clear hS0
  rw [← hH] at hP ⊢
  generalize hAe : inW (XW cI a pl n st ik td nd nh bs ktd knd knh kbs pg kd ag pa bo dm dn hh hn kag kpa kbo kdm kdn khh khn wb ps ty) = A at hD hS hE ⊢
  refine lv_aload_n hx hb dX2_street_0 rfl (lv_at hl 0 rfl) ?_
  refine rdV (As := []) (rest := []) hx hb hml hown hg (c_X2_housesOnPage l D cI cB aS aV _ pl n st ik td nd nh bs ktd knd knh kbs pg kd ag pa bo dm dn hh hn kag kpa kbo kdm kdn khh khn wb ps ty (by first | assumption | omega) (by first | assumption | omega)) gm_302 vf_X2_housesOnPage ⟨Nat.le_of_ble_eq_true rfl, Nat.le_of_ble_eq_true rfl⟩ ⟨rfl, rfl⟩ ⟨Nat.zero_le _, Nat.zero_le _⟩ (RPE.preV hK (hE.kept hS.2.1).none hP (q0 := 0) (ci := 2) XW_g0 rfl) rfl hl.1 rfl (Nat.le_of_ble_eq_true rfl) dX2_street_1 ?_
  refine lv_istore_n (lv' := [(1, .int (nI (if pl % 3 = 2 ∧ ftF pg pl = pl then (pl + 1) / 3 else 0))), (0, .ref (a 0))]) hx hb dX2_street_4 rfl hl (by decide) rfl (fun ls hl => ?_)
  refine lv_iload_n hx hb dX2_street_5 rfl (lv_at hl 0 rfl) ?_
  refine lv_iconst (v := (nI 2)) hx hb dX2_street_6 (by decide) ?_
  refine nv_icmp_ge (tgt := 13) hx hb dX2_street_7 (by split <;> omega) (by omega) (by decide) (fun c_7 => ?_) (fun c_7 => ?_)
  · skip
    have hA : pl % 3 = 2 ∧ ftF pg pl = pl := Classical.byContradiction (fun q => by rw [if_neg q] at c_7; omega)
    rw [if_pos hA] at c_7 hl
    have q17 := ft_17 hA.2
    refine lv_aload_n hx hb dX2_street_13 rfl (lv_at hl 1 rfl) ?_
    refine lv_iload_n hx hb dX2_street_14 rfl (lv_at hl 0 rfl) ?_
    refine va_put (D := D) (ci := 2) (v := .int (nI ((pl + 1) / 3))) (ty := .int) (C := RX2) (T := TX2) (N := 11) hx hb hg us_X2 tyX2 tyX2_ok nmX2 hown hK.1 hP hD hS 0 XW_g0 rfl 2 (by decide) (hg _ gm_68) (fun _ h9 => h9) rfl (by decide +kernel) rfl rfl (Nat.le_of_ble_eq_true rfl) dX2_street_15 (fun H locs hP hD hS => ?_)
    have hP : va_P D vwCl (XW cI a pl ((pl + 1) / 3) st ik td nd nh bs ktd knd knh kbs pg kd ag pa bo dm dn hh hn kag kpa kbo kdm kdn khh khn wb ps ty) H := P_eq hP XW_set_13
    have hD : va_D A (XW cI a pl ((pl + 1) / 3) st ik td nd nh bs ktd knd knh kbs pg kd ag pa bo dm dn hh hn kag kpa kbo kdm kdn khh khn wb ps ty) := D_eq hD XW_set_13
    refine lv_aload_n hx hb dX2_street_18 rfl (lv_at hl 1 rfl) ?_
    refine va_get (D := D) (ci := 2) (v := .ref (a 5)) (C := RX2) (T := TX2) (N := 11) hx hb hg us_X2 hown hK.1 hP 0 XW_g0 rfl 5 (by decide) (hg _ gm_71) (fun _ h9 => h9) rfl dX2_street_19 ?_
    have hP_1 : va_P D vwCl [(a 5, .inr (0, [.int (nI td), .int bs, .int (nI nd), .int (nI nh), .ref (a 6), .ref (a 7), .ref (a 8), .ref (a 9), .ref (a 10), .ref (a 11), .ref (a 12)])), (a 8, .inr (1, [.ref (a 15)])), (a 15, .inl (cI, 6, .inl bo))] _ := P_s3 hP XW_g5 XW_g8 XW_g15
    have hC_2 : ([5, 8, 15] : List Nat).map (fun q_ => (XW cI a pl ((pl + 1) / 3) st ik td nd nh bs ktd knd knh kbs pg kd ag pa bo dm dn hh hn kag kpa kbo kdm kdn khh khn wb ps ty : va_W)[q_]?) = List.map some ([(a 5, .inr (0, [.int (nI td), .int bs, .int (nI nd), .int (nI nh), .ref (a 6), .ref (a 7), .ref (a 8), .ref (a 9), .ref (a 10), .ref (a 11), .ref (a 12)])), (a 8, .inr (1, [.ref (a 15)])), (a 15, .inl (cI, 6, .inl bo))] : va_W) := M_s3 XW_g5 XW_g8 XW_g15
    have hDc_2 : va_D (fun _ => True) [(a 5, .inr (0, [.int (nI td), .int bs, .int (nI nd), .int (nI nh), .ref (a 6), .ref (a 7), .ref (a 8), .ref (a 9), .ref (a 10), .ref (a 11), .ref (a 12)])), (a 8, .inr (1, [.ref (a 15)])), (a 15, .inl (cI, 6, .inl bo))] := (hD.sub (ws' := [(a 5, .inr (0, [.int (nI td), .int bs, .int (nI nd), .int (nI nh), .ref (a 6), .ref (a 7), .ref (a 8), .ref (a 9), .ref (a 10), .ref (a 11), .ref (a 12)])), (a 8, .inr (1, [.ref (a 15)])), (a 15, .inl (cI, 6, .inl bo))]) [5, 8, 15] (by decide) hC_2).weaken (fun _ _ _ _ => trivial)
    refine wrVv (As := []) (rest := []) hx hb hml hown hg (c_X0_startAnew l D cI cB aS (a 5) (a 6) (a 7) (a 8) (a 9) (a 10) (a 11) (a 12) (a 15) td nd nh bs bo hDc_2) gm_306 vf_X0_startAnew ⟨Nat.le_of_ble_eq_true rfl, Nat.le_of_ble_eq_true rfl⟩ ⟨rfl, rfl⟩ ⟨Nat.zero_le _, Nat.zero_le _⟩ (RP.preV hK hP_1 (q0 := 0) (ci := 0) rfl rfl) rfl hl.1 rfl (Nat.le_of_ble_eq_true rfl) dX2_street_22 hS (inW_sub hD [5, 8, 15] hC_2) (fun u_3 H1 locs hpo_3 hP1 hk1 hS => ?_)
    have hP : va_P D vwCl (XW cI a pl ((pl + 1) / 3) st ik 0 0 0 (nI 0) ktd knd knh kbs pg kd ag pa (fun _ => nI 0) dm dn hh hn kag kpa kbo kdm kdn khh khn wb ps ty) H1 := P_eq (wjoin (wc := [(a 5, .inr (0, [.int (nI td), .int bs, .int (nI nd), .int (nI nh), .ref (a 6), .ref (a 7), .ref (a 8), .ref (a 9), .ref (a 10), .ref (a 11), .ref (a 12)])), (a 8, .inr (1, [.ref (a 15)])), (a 15, .inl (cI, 6, .inl bo))]) (w1 := [(a 5, .inr (0, [.int (nI 0), .int (nI 0), .int (nI 0), .int (nI 0), .ref (a 6), .ref (a 7), .ref (a 8), .ref (a 9), .ref (a 10), .ref (a 11), .ref (a 12)])), (a 8, .inr (1, [.ref (a 15)])), (a 15, .inl (cI, 6, .inl (fun _ => nI 0)))]) hP hD [5, 8, 15] hC_2 rfl hP1 hk1) XW_wsets_14
    have hD : va_D A (XW cI a pl ((pl + 1) / 3) st ik 0 0 0 (nI 0) ktd knd knh kbs pg kd ag pa (fun _ => nI 0) dm dn hh hn kag kpa kbo kdm kdn khh khn wb ps ty) := hD.addr (XW_addr.trans XW_addr.symm)
    clear hP1 hk1
    generalize H1 = H at hP hS ⊢
    refine lv_iconst (v := (nI 0)) hx hb dX2_street_25 (by decide) ?_
    refine lv_istore_n (lv' := [(2, .int (nI 0)), (1, .int (nI ((pl + 1) / 3))), (0, .ref (a 0))]) hx hb dX2_street_26 rfl hl (by decide) rfl (fun ls hl => ?_)
    -- loop at 27
    refine loopW (nL := 4) (S := Unit) (B := ((pl + 1) / 3)) (I := fun i u => True) (lv := fun i u => [(0, .ref (a 0)), (2, .int (nI i))]) (wf := fun i u => XW cI a pl ((pl + 1) / 3) st ik 0 0 0 (nI 0) ktd knd knh kbs pg (cpF (stK pg) kd i) (cpF (stA pg) ag i) pa (fun _ => nI 0) dm dn hh hn kag kpa kbo kdm kdn khh khn wb ps ty) 0 () (Nat.zero_le _) (trivial) (lv_sub hl [2, 0] rfl) (by show va_P D vwCl (XW cI a pl ((pl + 1) / 3) st ik 0 0 0 (nI 0) ktd knd knh kbs pg (cpF (stK pg) kd 0) (cpF (stA pg) ag 0) pa (fun _ => nI 0) dm dn hh hn kag kpa kbo kdm kdn khh khn wb ps ty) H; rw [cpF_0, cpF_0]; exact hP) (hD.addr (XW_addr.trans XW_addr.symm)) hS (fun i u ls H locs hj hI hl hP hD hS ih => ?_)
    have hP : va_P D vwCl (XW cI a pl ((pl + 1) / 3) st ik 0 0 0 (nI 0) ktd knd knh kbs pg (cpF (stK pg) kd i) (cpF (stA pg) ag i) pa (fun _ => nI 0) dm dn hh hn kag kpa kbo kdm kdn khh khn wb ps ty) H := hP
    have hD : va_D A (XW cI a pl ((pl + 1) / 3) st ik 0 0 0 (nI 0) ktd knd knh kbs pg (cpF (stK pg) kd i) (cpF (stA pg) ag i) pa (fun _ => nI 0) dm dn hh hn kag kpa kbo kdm kdn khh khn wb ps ty) := hD
    have hl : lv_has ls 4 [(0, .ref (a 0)), (2, .int (nI i))] := hl
    have ih_27 := ih
    refine lv_iload_n hx hb dX2_street_27 rfl (lv_at hl 1 rfl) ?_
    refine lv_aload_n hx hb dX2_street_28 rfl (lv_at hl 0 rfl) ?_
    refine va_get (D := D) (ci := 2) (v := .int (nI ((pl + 1) / 3))) (C := RX2) (T := TX2) (N := 11) hx hb hg us_X2 hown hK.1 hP 0 XW_g0 rfl 2 (by decide) (hg _ gm_68) (fun _ h9 => h9) rfl dX2_street_29 ?_
    refine nv_icmp_ge (tgt := 88) hx hb dX2_street_32 (by omega) (by omega) (by decide) (fun c_32 => ?_) (fun c_32 => ?_)
    · skip
      refine lv_aload_n hx hb dX2_street_88 rfl (lv_at hl 0 rfl) ?_
      refine lv_iconst (v := (nI 0)) hx hb dX2_street_89 (by decide) ?_
      refine va_put (D := D) (ci := 2) (v := .int (nI 0)) (ty := .boolean) (C := RX2) (T := TX2) (N := 11) hx hb hg us_X2 tyX2 tyX2_ok nmX2 hown hK.1 hP hD hS 0 XW_g0 rfl 7 (by decide) (hg _ gm_73) (fun _ h9 => h9) rfl (by decide +kernel) rfl rfl (Nat.le_of_ble_eq_true rfl) dX2_street_90 (fun H locs hP hD hS => ?_)
      have hP : va_P D vwCl (XW cI a pl ((pl + 1) / 3) st (nI 0) 0 0 0 (nI 0) ktd knd knh kbs pg (cpF (stK pg) kd i) (cpF (stA pg) ag i) pa (fun _ => nI 0) dm dn hh hn kag kpa kbo kdm kdn khh khn wb ps ty) H := P_eq hP XW_set_15
      have hD : va_D A (XW cI a pl ((pl + 1) / 3) st (nI 0) 0 0 0 (nI 0) ktd knd knh kbs pg (cpF (stK pg) kd i) (cpF (stA pg) ag i) pa (fun _ => nI 0) dm dn hh hn kag kpa kbo kdm kdn khh khn wb ps ty) := D_eq hD XW_set_15
      refine lv_aload_n hx hb dX2_street_93 rfl (lv_at hl 0 rfl) ?_
      refine lv_iconst (v := (nI 0)) hx hb dX2_street_94 (by decide) ?_
      refine va_put (D := D) (ci := 2) (v := .int (nI 0)) (ty := .int) (C := RX2) (T := TX2) (N := 11) hx hb hg us_X2 tyX2 tyX2_ok nmX2 hown hK.1 hP hD hS 0 XW_g0 rfl 1 (by decide) (hg _ gm_67) (fun _ h9 => h9) rfl (by decide +kernel) rfl rfl (Nat.le_of_ble_eq_true rfl) dX2_street_95 (fun H locs hP hD hS => ?_)
      have hP : va_P D vwCl (XW cI a 0 ((pl + 1) / 3) st (nI 0) 0 0 0 (nI 0) ktd knd knh kbs pg (cpF (stK pg) kd i) (cpF (stA pg) ag i) pa (fun _ => nI 0) dm dn hh hn kag kpa kbo kdm kdn khh khn wb ps ty) H := P_eq hP XW_set_3
      have hD : va_D A (XW cI a 0 ((pl + 1) / 3) st (nI 0) 0 0 0 (nI 0) ktd knd knh kbs pg (cpF (stK pg) kd i) (cpF (stA pg) ag i) pa (fun _ => nI 0) dm dn hh hn kag kpa kbo kdm kdn khh khn wb ps ty) := D_eq hD XW_set_3
      refine lv_aload_n hx hb dX2_street_98 rfl (lv_at hl 0 rfl) ?_
      refine lv_dup hx hb dX2_street_99 rfl ?_
      refine va_get (D := D) (ci := 2) (v := .int (nI st)) (C := RX2) (T := TX2) (N := 11) hx hb hg us_X2 hown hK.1 hP 0 XW_g0 rfl 3 (by decide) (hg _ gm_69) (fun _ h9 => h9) rfl dX2_street_100 ?_
      refine lv_iconst (v := (nI 1)) hx hb dX2_street_103 (by decide) ?_
      refine nv_iadd hx hb dX2_street_104 ?_
      refine va_put (D := D) (ci := 2) (v := .int (nI (st + 1))) (ty := .int) (C := RX2) (T := TX2) (N := 11) hx hb hg us_X2 tyX2 tyX2_ok nmX2 hown hK.1 hP hD hS 0 XW_g0 rfl 3 (by decide) (hg _ gm_69) (fun _ h9 => h9) rfl (by decide +kernel) rfl rfl (Nat.le_of_ble_eq_true rfl) dX2_street_105 (fun H locs hP hD hS => ?_)
      have hP : va_P D vwCl (XW cI a 0 ((pl + 1) / 3) (st + 1) (nI 0) 0 0 0 (nI 0) ktd knd knh kbs pg (cpF (stK pg) kd i) (cpF (stA pg) ag i) pa (fun _ => nI 0) dm dn hh hn kag kpa kbo kdm kdn khh khn wb ps ty) H := P_eq hP XW_set_16
      have hD : va_D A (XW cI a 0 ((pl + 1) / 3) (st + 1) (nI 0) 0 0 0 (nI 0) ktd knd knh kbs pg (cpF (stK pg) kd i) (cpF (stA pg) ag i) pa (fun _ => nI 0) dm dn hh hn kag kpa kbo kdm kdn khh khn wb ps ty) := D_eq hD XW_set_16
      refine lv_aload_n hx hb dX2_street_108 rfl (lv_at hl 0 rfl) ?_
      refine va_get (D := D) (ci := 2) (v := .int (nI ((pl + 1) / 3))) (C := RX2) (T := TX2) (N := 11) hx hb hg us_X2 hown hK.1 hP 0 XW_g0 rfl 2 (by decide) (hg _ gm_68) (fun _ h9 => h9) rfl dX2_street_109 ?_
      subst hAe
      exact wr_i (w1 := fun (u : Bool) => cond u (XW cI a 0 ((pl + 1) / 3) (st + 1) (nI 0) 0 0 0 (nI 0) ktd knd knh kbs pg (cpF (stK pg) kd ((pl + 1) / 3)) (cpF (stA pg) ag ((pl + 1) / 3)) pa (fun _ => nI 0) dm dn hh hn kag kpa kbo kdm kdn khh khn wb ps ty) (XW cI a pl n st ik td nd nh bs ktd knd knh kbs pg kd ag pa bo dm dn hh hn kag kpa kbo kdm kdn khh khn wb ps ty)) hx hb hr hlocks hS true (by rw [show i = (pl + 1) / 3 by omega] at hP; exact hP) dX2_street_112 (Or.inl ⟨⟨by omega, hA⟩, rfl, rfl⟩)
    · skip
      refine lv_iload_n hx hb dX2_street_35 rfl (lv_at hl 1 rfl) ?_
      refine lv_iconst (v := (nI 3)) hx hb dX2_street_36 (by decide) ?_
      refine nv_imul hx hb dX2_street_37 ?_
      refine lv_istore_n (lv' := [(3, .int (nI (i * 3))), (0, .ref (a 0)), (2, .int (nI i))]) hx hb dX2_street_38 rfl hl (by decide) rfl (fun ls hl => ?_)
      refine lv_aload_n hx hb dX2_street_39 rfl (lv_at hl 1 rfl) ?_
      refine va_get (D := D) (ci := 2) (v := .ref (a 3)) (C := RX2) (T := TX2) (N := 11) hx hb hg us_X2 hown hK.1 hP 0 XW_g0 rfl 4 (by decide) (hg _ gm_70) (fun _ h9 => h9) rfl dX2_street_40 ?_
      refine lv_iload_n hx hb dX2_street_43 rfl (lv_at hl 2 rfl) ?_
      refine lv_aload_n hx hb dX2_street_44 rfl (lv_at hl 1 rfl) ?_
      refine va_get (D := D) (ci := 2) (v := .ref (a 1)) (C := RX2) (T := TX2) (N := 11) hx hb hg us_X2 hown hK.1 hP 0 XW_g0 rfl 0 (by decide) (hg _ gm_66) (fun _ h9 => h9) rfl dX2_street_45 ?_
      refine lv_iload_n hx hb dX2_street_48 rfl (lv_at hl 0 rfl) ?_
      have hP_4 : va_P D vwCl [(a 1, .inr (1, [.ref (a 2)])), (a 2, .inl (cI, 19, .inl pg))] _ := P_s2 hP XW_g1 XW_g2
      refine rdV (As := [.int (nI (i * 3))]) (rest := [.int (nI i), .ref (a 3)]) hx hb hml hown hg (c_X1_at l D cI cB aS (a 1) (a 2) 19 pg (i * 3) (by first | assumption | omega) (by first | assumption | omega)) gm_95 vf_X1_at ⟨Nat.le_of_ble_eq_true rfl, Nat.le_of_ble_eq_true rfl⟩ ⟨rfl, rfl⟩ ⟨Nat.zero_le _, Nat.zero_le _⟩ (RP.preV hK hP_4 (q0 := 0) (ci := 1) rfl rfl) rfl hl.1 rfl (Nat.le_of_ble_eq_true rfl) dX2_street_49 ?_
      rw [show ((pg (i * 3)) : Int32) = (nI ((pg (3 * i)).toNatClampNeg)) from by rw [Nat.mul_comm]; exact (qpg (3 * i) (by omega)).1]
      refine rdS (As := [.int (nI ((pg (3 * i)).toNatClampNeg))]) (rest := [.int (nI i), .ref (a 3)]) hx hb hml hown hg (c_X2_kindOfLetter l D cI cB aS aV ((pg (3 * i)).toNatClampNeg) (qpg (3 * i) (by omega)).2.2) gm_251 sf_X2_kindOfLetter ⟨Nat.le_of_ble_eq_true rfl, Nat.le_of_ble_eq_true rfl⟩ ⟨rfl, rfl⟩ ⟨Nat.zero_le _, Nat.zero_le _⟩ (RPE.preS hK (hE.kept hS.2.1).none (fun k q h => by simp at h)) rfl hl.1 rfl (Nat.le_of_ble_eq_true rfl) dX2_street_52 ?_
      have hP_5 : va_P D vwCl [(a 3, .inr (1, [.ref (a 4)])), (a 4, .inl (cI, 6, .inl (cpF (stK pg) kd i)))] _ := P_s2 hP XW_g3 XW_g4
      have hC_6 : ([3, 4] : List Nat).map (fun q_ => (XW cI a pl ((pl + 1) / 3) st ik 0 0 0 (nI 0) ktd knd knh kbs pg (cpF (stK pg) kd i) (cpF (stA pg) ag i) pa (fun _ => nI 0) dm dn hh hn kag kpa kbo kdm kdn khh khn wb ps ty : va_W)[q_]?) = List.map some ([(a 3, .inr (1, [.ref (a 4)])), (a 4, .inl (cI, 6, .inl (cpF (stK pg) kd i)))] : va_W) := M_s2 XW_g3 XW_g4
      have hDc_6 : va_D (fun _ => True) [(a 3, .inr (1, [.ref (a 4)])), (a 4, .inl (cI, 6, .inl (cpF (stK pg) kd i)))] := (hD.sub (ws' := [(a 3, .inr (1, [.ref (a 4)])), (a 4, .inl (cI, 6, .inl (cpF (stK pg) kd i)))]) [3, 4] (by decide) hC_6).weaken (fun _ _ _ _ => trivial)
      refine wrVv (As := [.int (nI i), .int (kindF ((pg (3 * i)).toNatClampNeg))]) (rest := []) hx hb hml hown hg (c_X1_put l D cI cB aS (a 3) (a 4) 6 (cpF (stK pg) kd i) i (kindF ((pg (3 * i)).toNatClampNeg)) hDc_6 (by first | assumption | omega) (by first | assumption | omega)) gm_137 vf_X1_put ⟨Nat.le_of_ble_eq_true rfl, Nat.le_of_ble_eq_true rfl⟩ ⟨rfl, rfl⟩ ⟨Nat.zero_le _, Nat.zero_le _⟩ (RP.preV hK hP_5 (q0 := 0) (ci := 1) rfl rfl) rfl hl.1 rfl (Nat.le_of_ble_eq_true rfl) dX2_street_55 hS (inW_sub hD [3, 4] hC_6) (fun u_7 H1 locs hpo_7 hP1 hk1 hS => ?_)
      have hP : va_P D vwCl (XW cI a pl ((pl + 1) / 3) st ik 0 0 0 (nI 0) ktd knd knh kbs pg (upd (cpF (stK pg) kd i) i (kindF ((pg (3 * i)).toNatClampNeg))) (cpF (stA pg) ag i) pa (fun _ => nI 0) dm dn hh hn kag kpa kbo kdm kdn khh khn wb ps ty) H1 := P_eq (wjoin (wc := [(a 3, .inr (1, [.ref (a 4)])), (a 4, .inl (cI, 6, .inl (cpF (stK pg) kd i)))]) (w1 := [(a 3, .inr (1, [.ref (a 4)])), (a 4, .inl (cI, 6, .inl (upd (cpF (stK pg) kd i) i (kindF ((pg (3 * i)).toNatClampNeg)))))]) hP hD [3, 4] hC_6 rfl hP1 hk1) XW_wsets_17
      have hD : va_D A (XW cI a pl ((pl + 1) / 3) st ik 0 0 0 (nI 0) ktd knd knh kbs pg (upd (cpF (stK pg) kd i) i (kindF ((pg (3 * i)).toNatClampNeg))) (cpF (stA pg) ag i) pa (fun _ => nI 0) dm dn hh hn kag kpa kbo kdm kdn khh khn wb ps ty) := hD.addr (XW_addr.trans XW_addr.symm)
      clear hP1 hk1
      generalize H1 = H at hP hS ⊢
      have e_8 : upd (cpF (stK pg) kd i) i (kindF ((pg (3 * i)).toNatClampNeg)) = cpF (stK pg) kd (i + 1) := (cpF_s rfl)
      rw [e_8] at hP hD
      have hP : va_P D vwCl (XW cI a pl ((pl + 1) / 3) st ik 0 0 0 (nI 0) ktd knd knh kbs pg (cpF (stK pg) kd (i + 1)) (cpF (stA pg) ag i) pa (fun _ => nI 0) dm dn hh hn kag kpa kbo kdm kdn khh khn wb ps ty) H := hP
      have hD : va_D A (XW cI a pl ((pl + 1) / 3) st ik 0 0 0 (nI 0) ktd knd knh kbs pg (cpF (stK pg) kd (i + 1)) (cpF (stA pg) ag i) pa (fun _ => nI 0) dm dn hh hn kag kpa kbo kdm kdn khh khn wb ps ty) := hD
      refine lv_aload_n hx hb dX2_street_58 rfl (lv_at hl 1 rfl) ?_
      refine va_get (D := D) (ci := 2) (v := .ref (a 5)) (C := RX2) (T := TX2) (N := 11) hx hb hg us_X2 hown hK.1 hP 0 XW_g0 rfl 5 (by decide) (hg _ gm_71) (fun _ h9 => h9) rfl dX2_street_59 ?_
      refine va_getN (D := D) (ci := 0) (v := .ref (a 6)) (C := RX0) (T := TX0) (N := 11) hx hb hg us_X0 hown hK.1 hP 5 XW_g5 rfl 4 (by decide) (nl_76 hK) (fun _ h9 => h9) rfl dX2_street_62 ?_
      refine lv_iload_n hx hb dX2_street_65 rfl (lv_at hl 2 rfl) ?_
      refine lv_aload_n hx hb dX2_street_66 rfl (lv_at hl 1 rfl) ?_
      refine va_get (D := D) (ci := 2) (v := .ref (a 1)) (C := RX2) (T := TX2) (N := 11) hx hb hg us_X2 hown hK.1 hP 0 XW_g0 rfl 0 (by decide) (hg _ gm_66) (fun _ h9 => h9) rfl dX2_street_67 ?_
      refine lv_iload_n hx hb dX2_street_70 rfl (lv_at hl 0 rfl) ?_
      refine lv_iconst (v := (nI 1)) hx hb dX2_street_71 (by decide) ?_
      refine nv_iadd hx hb dX2_street_72 ?_
      have hP_9 : va_P D vwCl [(a 1, .inr (1, [.ref (a 2)])), (a 2, .inl (cI, 19, .inl pg))] _ := P_s2 hP XW_g1 XW_g2
      refine rdV (As := [.int (nI (i * 3 + 1))]) (rest := [.int (nI i), .ref (a 6)]) hx hb hml hown hg (c_X1_at l D cI cB aS (a 1) (a 2) 19 pg (i * 3 + 1) (by first | assumption | omega) (by first | assumption | omega)) gm_95 vf_X1_at ⟨Nat.le_of_ble_eq_true rfl, Nat.le_of_ble_eq_true rfl⟩ ⟨rfl, rfl⟩ ⟨Nat.zero_le _, Nat.zero_le _⟩ (RP.preV hK hP_9 (q0 := 0) (ci := 1) rfl rfl) rfl hl.1 rfl (Nat.le_of_ble_eq_true rfl) dX2_street_73 ?_
      refine lv_bipush (v := (nI 48)) hx hb dX2_street_76 (by decide) ?_
      refine lv_isub hx hb dX2_street_78 ?_
      have hP_10 : va_P D vwCl [(a 6, .inr (1, [.ref (a 13)])), (a 13, .inl (cI, 6, .inl (cpF (stA pg) ag i)))] _ := P_s2 hP XW_g6 XW_g13
      have hC_11 : ([6, 13] : List Nat).map (fun q_ => (XW cI a pl ((pl + 1) / 3) st ik 0 0 0 (nI 0) ktd knd knh kbs pg (cpF (stK pg) kd (i + 1)) (cpF (stA pg) ag i) pa (fun _ => nI 0) dm dn hh hn kag kpa kbo kdm kdn khh khn wb ps ty : va_W)[q_]?) = List.map some ([(a 6, .inr (1, [.ref (a 13)])), (a 13, .inl (cI, 6, .inl (cpF (stA pg) ag i)))] : va_W) := M_s2 XW_g6 XW_g13
      have hDc_11 : va_D (fun _ => True) [(a 6, .inr (1, [.ref (a 13)])), (a 13, .inl (cI, 6, .inl (cpF (stA pg) ag i)))] := (hD.sub (ws' := [(a 6, .inr (1, [.ref (a 13)])), (a 13, .inl (cI, 6, .inl (cpF (stA pg) ag i)))]) [6, 13] (by decide) hC_11).weaken (fun _ _ _ _ => trivial)
      refine wrVv (As := [.int (nI i), .int ((pg (i * 3 + 1)) - (nI 48))]) (rest := []) hx hb hml hown hg (c_X1_put l D cI cB aS (a 6) (a 13) 6 (cpF (stA pg) ag i) i ((pg (i * 3 + 1)) - (nI 48)) hDc_11 (by first | assumption | omega) (by first | assumption | omega)) gm_137 vf_X1_put ⟨Nat.le_of_ble_eq_true rfl, Nat.le_of_ble_eq_true rfl⟩ ⟨rfl, rfl⟩ ⟨Nat.zero_le _, Nat.zero_le _⟩ (RP.preV hK hP_10 (q0 := 0) (ci := 1) rfl rfl) rfl hl.1 rfl (Nat.le_of_ble_eq_true rfl) dX2_street_79 hS (inW_sub hD [6, 13] hC_11) (fun u_12 H1 locs hpo_12 hP1 hk1 hS => ?_)
      have hP : va_P D vwCl (XW cI a pl ((pl + 1) / 3) st ik 0 0 0 (nI 0) ktd knd knh kbs pg (cpF (stK pg) kd (i + 1)) (upd (cpF (stA pg) ag i) i ((pg (i * 3 + 1)) - (nI 48))) pa (fun _ => nI 0) dm dn hh hn kag kpa kbo kdm kdn khh khn wb ps ty) H1 := P_eq (wjoin (wc := [(a 6, .inr (1, [.ref (a 13)])), (a 13, .inl (cI, 6, .inl (cpF (stA pg) ag i)))]) (w1 := [(a 6, .inr (1, [.ref (a 13)])), (a 13, .inl (cI, 6, .inl (upd (cpF (stA pg) ag i) i ((pg (i * 3 + 1)) - (nI 48)))))]) hP hD [6, 13] hC_11 rfl hP1 hk1) XW_wsets_18
      have hD : va_D A (XW cI a pl ((pl + 1) / 3) st ik 0 0 0 (nI 0) ktd knd knh kbs pg (cpF (stK pg) kd (i + 1)) (upd (cpF (stA pg) ag i) i ((pg (i * 3 + 1)) - (nI 48))) pa (fun _ => nI 0) dm dn hh hn kag kpa kbo kdm kdn khh khn wb ps ty) := hD.addr (XW_addr.trans XW_addr.symm)
      clear hP1 hk1
      generalize H1 = H at hP hS ⊢
      have e_13 : upd (cpF (stA pg) ag i) i ((pg (i * 3 + 1)) - (nI 48)) = cpF (stA pg) ag (i + 1) := (cpF_s (by rw [Nat.mul_comm]; rfl))
      rw [e_13] at hP hD
      have hP : va_P D vwCl (XW cI a pl ((pl + 1) / 3) st ik 0 0 0 (nI 0) ktd knd knh kbs pg (cpF (stK pg) kd (i + 1)) (cpF (stA pg) ag (i + 1)) pa (fun _ => nI 0) dm dn hh hn kag kpa kbo kdm kdn khh khn wb ps ty) H := hP
      have hD : va_D A (XW cI a pl ((pl + 1) / 3) st ik 0 0 0 (nI 0) ktd knd knh kbs pg (cpF (stK pg) kd (i + 1)) (cpF (stA pg) ag (i + 1)) pa (fun _ => nI 0) dm dn hh hn kag kpa kbo kdm kdn khh khn wb ps ty) := hD
      refine lv_iinc (v := (nI (i + 1))) (lv' := [(2, .int (nI (i + 1))), (3, .int (nI (i * 3))), (0, .ref (a 0))]) hx hb dX2_street_82 hl (k := 2) rfl (nI_i1 _) (by decide) rfl (fun ls hl => ?_)
      refine lv_goto (tgt := 27) hx hb dX2_street_85 (by decide) ?_
      exact ih_27 () _ _ _ (by omega) (trivial) (lv_sub hl [2, 0] rfl) hP (hD.addr (XW_addr.trans XW_addr.symm)) hS
  · skip
    refine lv_bipush (v := (-103)) hx hb dX2_street_10 (by decide) ?_
    subst hAe
    exact wr_i (w1 := fun (u : Bool) => cond u (XW cI a 0 ((pl + 1) / 3) (st + 1) (nI 0) 0 0 0 (nI 0) ktd knd knh kbs pg (cpF (stK pg) kd ((pl + 1) / 3)) (cpF (stA pg) ag ((pl + 1) / 3)) pa (fun _ => nI 0) dm dn hh hn kag kpa kbo kdm kdn khh khn wb ps ty) (XW cI a pl n st ik td nd nh bs ktd knd knh kbs pg kd ag pa bo dm dn hh hn kag kpa kbo kdm kdn khh khn wb ps ty)) hx hb hr hlocks hS false hP dX2_street_12 (Or.inr ⟨fun q => by rw [if_pos q.2] at c_7; omega, rfl, rfl⟩)
end
section
abbrev rm_X1_init (n : Nat) : Room := { frames := 1, cells := 1, slots := n, locals := 12 }
set_option maxRecDepth 100000 in
set_option maxHeartbeats 4000000 in
theorem c_X1_init (l : Launch) (D : va_G) (cI cB : ClassId) (aS : Nat) (h0 sz n : Nat) (hn : n < 1000) (hD0 : va_D (fun _ => True) [(h0, .inr (1, [.null]))]) : Met l yX1_init (mw yX1_init cX1_init 2 none) (rm_X1_init n) (RPZ D cI cB aS sz [(h0, .inr (1, [.null]))] [.ref h0, .int (nI n)]) (cqv D sz [(h0, .inr (1, [.null]))] (fun (u : Nat) => [(h0, .inr (1, [.ref u])), (u, .inl (cI, n, .inl (fun _ => nI 0)))]) (fun (u : Nat) => True)) 1 n (va_A [(h0, .inr (1, [.null]))] sz) := by
  refine met_ofC (by decide) (Nat.le_of_ble_eq_true rfl) ?_
  intro p e s m below meth c ls hx hb hr hml hown hg hlocks hin hK hsz hP hl
  have hown : s.vm.findClass RX1 = some m.cls := hown
  have hin : meth.name = "<init>" := hin rfl
  subst hsz
  have hD := hD0.self (sz := s.heap.size)
  generalize hAe : va_A [(h0, .inr (1, [.null]))] s.heap.size = A at hD ⊢
  have hA : ∀ q : Nat, s.heap.size ≤ q → A q := fun q h => by rw [← hAe]; exact Or.inr h
  have hS : va_S A s.heap s.heap [] := va_S.rf
  have hl : lv_has ls 2 [(0, .ref h0), (1, .int (nI n))] := hl
  have hP : va_P D vwCl [(h0, .inr (1, [.null]))] s.heap := hP
  refine lv_aload_n hx hb dX1_init_0 rfl (lv_at hl 0 rfl) ?_
  refine W.objInit hx hb hown (hg _ gm_23) (hg _ gm_16) (hg _ gm_17) rfl (by rw [hml]; exact hl.1) rfl dX1_init_1 (Nat.le_of_ble_eq_true rfl) (Nat.le_of_ble_eq_true rfl) ?_
  refine W.eq (g2 := F0 m 4 ls []) rfl ?_
  refine lv_aload_n hx hb dX1_init_4 rfl (lv_at hl 0 rfl) ?_
  refine lv_iload_n hx hb dX1_init_5 rfl (lv_at hl 1 rfl) ?_
  refine nv_if_ge (tgt := 13) hx hb dX1_init_6 (by omega) (by decide) ?_
  refine lv_iload_n hx hb dX1_init_13 rfl (lv_at hl 1 rfl) ?_
  have hby : n * componentBytes .int ≤ 536870912 := by show n * 4 ≤ _; omega
  refine va_newa (atype := .int) hx hb (hg _ gm_26) rfl hK.1 hP hD hS hA (n := nI n) (N' := n) (a0 := (n, .inl (fun _ => nI 0))) new_i (nI_pos (by omega)) (nI_clamp (by omega)) hby (Nat.le_of_ble_eq_true rfl) (by show 0 + n ≤ n; omega) dX1_init_14 (fun q1 cA H hK2 hP hD hS => ?_)
  have ecA := cI_eq hK.1 hK2
  rw [ecA] at hP hD
  clear ecA hK2
  have hP : va_P D vwCl [(h0, .inr (1, [.null])), (q1, .inl (cI, n, .inl (fun _ => nI 0)))] H := hP
  have hD : va_D A [(h0, .inr (1, [.null])), (q1, .inl (cI, n, .inl (fun _ => nI 0)))] := hD
  refine W.widen (k := 1) (n := n) (by omega) (by omega) ?_
  refine va_putF (D := D) (ci := 1) (v := .ref q1) (ty := .array .int) (C := RX1) (T := TX1) (N := 1) hx hb hg us_X1 tyX1 tyX1_ok nmX1 hown hK.1 hP hD hS 0 rfl rfl 0 (by decide) (hg _ gm_24) (fun _ h9 => h9) rfl hin rfl (by decide +kernel) rfl rfl (Nat.le_of_ble_eq_true rfl) dX1_init_16 (fun H locs hP hD hS => ?_)
  have hP : va_P D vwCl [(h0, .inr (1, [.ref q1])), (q1, .inl (cI, n, .inl (fun _ => nI 0)))] H := hP
  have hD : va_D A [(h0, .inr (1, [.ref q1])), (q1, .inl (cI, n, .inl (fun _ => nI 0)))] := hD
  have hP9 := hP.sub (ws' := (fun (u : Nat) => [(h0, .inr (1, [.ref u])), (u, .inl (cI, n, .inl (fun _ => nI 0)))]) q1) [0, 1] rfl
  have hD9 := hD.sub (ws' := (fun (u : Nat) => [(h0, .inr (1, [.ref u])), (u, .inl (cI, n, .inl (fun _ => nI 0)))]) q1) [0, 1] (by decide) rfl
  subst hAe
  exact W.vret hx hb hr (fun t ht hW => ⟨⟨q1, rfl, trivial, by rw [ht]; exact hP9, hD9⟩, hS.F ht⟩) hS.2.2 dX1_init_19
theorem if_X1_init : ifacts RX1 yX1_init cX1_init 2 1 := ⟨⟨rfl, by decide +kernel, by decide +kernel, by decide +kernel⟩, rfl, gm_21, gm_3, gm_22⟩
abbrev rm_X0_init : Room := { frames := 2, cells := 14, slots := 223, locals := 33 }
set_option maxRecDepth 100000 in
set_option maxHeartbeats 4000000 in
theorem c_X0_init (l : Launch) (D : va_G) (cI cB : ClassId) (aS : Nat) (h0 sz : Nat) (hD0 : va_D (fun _ => True) [(h0, .inr (0, [.int 0, .int 0, .int 0, .int 0, .null, .null, .null, .null, .null, .null, .null]))]) : Met l yX0_init (mw yX0_init cX0_init 1 none) (rm_X0_init) (RPZ D cI cB aS sz [(h0, .inr (0, [.int 0, .int 0, .int 0, .int 0, .null, .null, .null, .null, .null, .null, .null]))] [.ref h0]) (cqv D sz [(h0, .inr (0, [.int 0, .int 0, .int 0, .int 0, .null, .null, .null, .null, .null, .null, .null]))] (fun (u : Nat → Nat) => [(u 0, .inr (0, [.int (nI 0), .int (nI 0), .int (nI 0), .int (nI 0), .ref (u 1), .ref (u 2), .ref (u 3), .ref (u 4), .ref (u 5), .ref (u 6), .ref (u 7)])), (u 1, .inr (1, [.ref (u 8)])), (u 2, .inr (1, [.ref (u 9)])), (u 3, .inr (1, [.ref (u 10)])), (u 4, .inr (1, [.ref (u 11)])), (u 5, .inr (1, [.ref (u 12)])), (u 6, .inr (1, [.ref (u 13)])), (u 7, .inr (1, [.ref (u 14)])), (u 8, .inl (cI, 6, .inl (fun _ => nI 0))), (u 9, .inl (cI, 180, .inl (fun _ => nI 0))), (u 10, .inl (cI, 6, .inl (fun _ => nI 0))), (u 11, .inl (cI, 6, .inl (fun _ => nI 0))), (u 12, .inl (cI, 6, .inl (fun _ => nI 0))), (u 13, .inl (cI, 6, .inl (fun _ => nI 0))), (u 14, .inl (cI, 6, .inl (fun _ => nI 0)))]) (fun (u : Nat → Nat) => u 0 = h0)) 14 223 (va_A [(h0, .inr (0, [.int 0, .int 0, .int 0, .int 0, .null, .null, .null, .null, .null, .null, .null]))] sz) := by
  refine met_ofC (by decide) (Nat.le_of_ble_eq_true rfl) ?_
  intro p e s m below meth c ls hx hb hr hml hown hg hlocks hin hK hsz hP hl
  have hown : s.vm.findClass RX0 = some m.cls := hown
  have hin : meth.name = "<init>" := hin rfl
  subst hsz
  have hD := hD0.self (sz := s.heap.size)
  generalize hAe : va_A [(h0, .inr (0, [.int 0, .int 0, .int 0, .int 0, .null, .null, .null, .null, .null, .null, .null]))] s.heap.size = A at hD ⊢
  have hA : ∀ q : Nat, s.heap.size ≤ q → A q := fun q h => by rw [← hAe]; exact Or.inr h
  have hS : va_S A s.heap s.heap [] := va_S.rf
  have hl : lv_has ls 1 [(0, .ref h0)] := hl
  have hP : va_P D vwCl [(h0, .inr (0, [.int 0, .int 0, .int 0, .int 0, .null, .null, .null, .null, .null, .null, .null]))] s.heap := hP
  refine lv_aload_n hx hb dX0_init_0 rfl (lv_at hl 0 rfl) ?_
  refine W.objInit hx hb hown (hg _ gm_32) (hg _ gm_16) (hg _ gm_17) rfl (by rw [hml]; exact hl.1) rfl dX0_init_1 (Nat.le_of_ble_eq_true rfl) (Nat.le_of_ble_eq_true rfl) ?_
  refine W.eq (g2 := F0 m 4 ls []) rfl ?_
  refine lv_aload_n hx hb dX0_init_4 rfl (lv_at hl 0 rfl) ?_
  refine lv_iconst (v := nI 0) hx hb dX0_init_5 (by decide) ?_
  refine va_put (D := D) (ci := 0) (v := .int (nI 0)) (ty := .int) (C := RX0) (T := TX0) (N := 11) hx hb hg us_X0 tyX0 tyX0_ok nmX0 hown hK.1 hP hD hS 0 rfl rfl 0 (by decide) (hg _ gm_35) (fun _ h9 => h9) rfl (by decide +kernel) rfl rfl (Nat.le_of_ble_eq_true rfl) dX0_init_6 (fun H locs hP hD hS => ?_)
  have hP : va_P D vwCl [(h0, .inr (0, [.int (nI 0), .int 0, .int 0, .int 0, .null, .null, .null, .null, .null, .null, .null]))] H := hP
  have hD : va_D A [(h0, .inr (0, [.int (nI 0), .int 0, .int 0, .int 0, .null, .null, .null, .null, .null, .null, .null]))] := hD
  refine lv_aload_n hx hb dX0_init_9 rfl (lv_at hl 0 rfl) ?_
  refine lv_iconst (v := nI 0) hx hb dX0_init_10 (by decide) ?_
  refine va_put (D := D) (ci := 0) (v := .int (nI 0)) (ty := .int) (C := RX0) (T := TX0) (N := 11) hx hb hg us_X0 tyX0 tyX0_ok nmX0 hown hK.1 hP hD hS 0 rfl rfl 1 (by decide) (hg _ gm_37) (fun _ h9 => h9) rfl (by decide +kernel) rfl rfl (Nat.le_of_ble_eq_true rfl) dX0_init_11 (fun H locs hP hD hS => ?_)
  have hP : va_P D vwCl [(h0, .inr (0, [.int (nI 0), .int (nI 0), .int 0, .int 0, .null, .null, .null, .null, .null, .null, .null]))] H := hP
  have hD : va_D A [(h0, .inr (0, [.int (nI 0), .int (nI 0), .int 0, .int 0, .null, .null, .null, .null, .null, .null, .null]))] := hD
  refine lv_aload_n hx hb dX0_init_14 rfl (lv_at hl 0 rfl) ?_
  refine lv_iconst (v := nI 0) hx hb dX0_init_15 (by decide) ?_
  refine va_put (D := D) (ci := 0) (v := .int (nI 0)) (ty := .int) (C := RX0) (T := TX0) (N := 11) hx hb hg us_X0 tyX0 tyX0_ok nmX0 hown hK.1 hP hD hS 0 rfl rfl 2 (by decide) (hg _ gm_39) (fun _ h9 => h9) rfl (by decide +kernel) rfl rfl (Nat.le_of_ble_eq_true rfl) dX0_init_16 (fun H locs hP hD hS => ?_)
  have hP : va_P D vwCl [(h0, .inr (0, [.int (nI 0), .int (nI 0), .int (nI 0), .int 0, .null, .null, .null, .null, .null, .null, .null]))] H := hP
  have hD : va_D A [(h0, .inr (0, [.int (nI 0), .int (nI 0), .int (nI 0), .int 0, .null, .null, .null, .null, .null, .null, .null]))] := hD
  refine lv_aload_n hx hb dX0_init_19 rfl (lv_at hl 0 rfl) ?_
  refine lv_iconst (v := nI 0) hx hb dX0_init_20 (by decide) ?_
  refine va_put (D := D) (ci := 0) (v := .int (nI 0)) (ty := .int) (C := RX0) (T := TX0) (N := 11) hx hb hg us_X0 tyX0 tyX0_ok nmX0 hown hK.1 hP hD hS 0 rfl rfl 3 (by decide) (hg _ gm_41) (fun _ h9 => h9) rfl (by decide +kernel) rfl rfl (Nat.le_of_ble_eq_true rfl) dX0_init_21 (fun H locs hP hD hS => ?_)
  have hP : va_P D vwCl [(h0, .inr (0, [.int (nI 0), .int (nI 0), .int (nI 0), .int (nI 0), .null, .null, .null, .null, .null, .null, .null]))] H := hP
  have hD : va_D A [(h0, .inr (0, [.int (nI 0), .int (nI 0), .int (nI 0), .int (nI 0), .null, .null, .null, .null, .null, .null, .null]))] := hD
  refine lv_aload_n hx hb dX0_init_24 rfl (lv_at hl 0 rfl) ?_
  refine va_new (ci := 1) (fs := [.null]) (C := RX1) (T := TX1) (N := 1) hx hb hg us_X1 tyX1 tyX1_ok hown (hg _ gm_33) (hg _ gm_19) (hg _ gm_3) hK.1 hP hD hS hA rfl (fun j hj => by rcases (show j = 0 by omega) with rfl <;> rfl) (Nat.le_of_ble_eq_true rfl) (Nat.le_of_ble_eq_true rfl) dX0_init_25 (fun q1 H hP hD hS => ?_)
  have hP : va_P D vwCl [(h0, .inr (0, [.int (nI 0), .int (nI 0), .int (nI 0), .int (nI 0), .null, .null, .null, .null, .null, .null, .null])), (q1, .inr (1, [.null]))] H := hP
  have hD : va_D A [(h0, .inr (0, [.int (nI 0), .int (nI 0), .int (nI 0), .int (nI 0), .null, .null, .null, .null, .null, .null, .null])), (q1, .inr (1, [.null]))] := hD
  refine W.widen (k := 1) (n := 1) (by omega) (by omega) ?_
  refine lv_dup hx hb dX0_init_28 rfl ?_
  refine lv_bipush (v := nI 6) hx hb dX0_init_29 (by decide) ?_
  have hPc := hP.sub (ws' := [(q1, .inr (1, [.null]))]) [1] rfl
  have hDc := hD.sub (ws' := [(q1, .inr (1, [.null]))]) [1] (by decide) rfl
  have hFc := va_free (wc := [(q1, .inr (1, [.null]))]) hD hS hA [1] rfl
  refine va_callv (va_runI (As := [.int (nI 6)]) (rest := [.ref q1, .ref h0]) ⟨hx, hb, hml, hown, hg⟩ (c_X1_init l D cI cB aS q1 H.size 6 (by decide) (hDc.weaken (fun _ _ _ _ => trivial))) (cwI_of hg gm_34 if_X1_init rfl rfl ⟨Nat.le_of_ble_eq_true rfl, Nat.le_of_ble_eq_true rfl⟩) (RPZ.pre hK hPc) rfl rfl hl.1 rfl (lv_room (Nat.le_of_ble_eq_true rfl)) dX0_init_31 ⟨Nat.le_of_ble_eq_true rfl, Nat.le_of_ble_eq_true rfl⟩) hS (fun q _ h => hFc q h) hFc (fun u2 t H1 locs ht hvm hw hB hz1 hk1 hS => ?_)
  obtain ⟨hP1, hD1⟩ := hB
  rw [ht] at hP1
  obtain ⟨hP, hD⟩ := va_join (wr := [(h0, .inr (0, [.int (nI 0), .int (nI 0), .int (nI 0), .int (nI 0), .null, .null, .null, .null, .null, .null, .null]))]) (w1 := [(q1, .inr (1, [.ref u2])), (u2, .inl (cI, 6, .inl (fun _ => nI 0)))]) hP hD [1] [0] rfl rfl (by decide) (by decide) hk1 hFc hP1 hD1
  clear hP1 hD1 hk1 hFc hPc hDc
  generalize H1 = H at hP hS ⊢
  have hP : va_P D vwCl [(h0, .inr (0, [.int (nI 0), .int (nI 0), .int (nI 0), .int (nI 0), .null, .null, .null, .null, .null, .null, .null])), (q1, .inr (1, [.ref u2])), (u2, .inl (cI, 6, .inl (fun _ => nI 0)))] H := hP
  have hD : va_D A [(h0, .inr (0, [.int (nI 0), .int (nI 0), .int (nI 0), .int (nI 0), .null, .null, .null, .null, .null, .null, .null])), (q1, .inr (1, [.ref u2])), (u2, .inl (cI, 6, .inl (fun _ => nI 0)))] := hD
  refine W.widen (k := 2) (n := 7) (by omega) (by omega) ?_
  refine va_putF (D := D) (ci := 0) (v := .ref q1) (ty := .object "BirthStreet$Row") (C := RX0) (T := TX0) (N := 11) hx hb hg us_X0 tyX0 tyX0_ok nmX0 hown hK.1 hP hD hS 0 rfl rfl 4 (by decide) (hg _ gm_43) (fun _ h9 => h9) rfl hin rfl (by decide +kernel) rfl rfl (Nat.le_of_ble_eq_true rfl) dX0_init_34 (fun H locs hP hD hS => ?_)
  have hP : va_P D vwCl [(h0, .inr (0, [.int (nI 0), .int (nI 0), .int (nI 0), .int (nI 0), .ref q1, .null, .null, .null, .null, .null, .null])), (q1, .inr (1, [.ref u2])), (u2, .inl (cI, 6, .inl (fun _ => nI 0)))] H := hP
  have hD : va_D A [(h0, .inr (0, [.int (nI 0), .int (nI 0), .int (nI 0), .int (nI 0), .ref q1, .null, .null, .null, .null, .null, .null])), (q1, .inr (1, [.ref u2])), (u2, .inl (cI, 6, .inl (fun _ => nI 0)))] := hD
  refine lv_aload_n hx hb dX0_init_37 rfl (lv_at hl 0 rfl) ?_
  refine va_new (ci := 1) (fs := [.null]) (C := RX1) (T := TX1) (N := 1) hx hb hg us_X1 tyX1 tyX1_ok hown (hg _ gm_33) (hg _ gm_19) (hg _ gm_3) hK.1 hP hD hS hA rfl (fun j hj => by rcases (show j = 0 by omega) with rfl <;> rfl) (Nat.le_of_ble_eq_true rfl) (Nat.le_of_ble_eq_true rfl) dX0_init_38 (fun q3 H hP hD hS => ?_)
  have hP : va_P D vwCl [(h0, .inr (0, [.int (nI 0), .int (nI 0), .int (nI 0), .int (nI 0), .ref q1, .null, .null, .null, .null, .null, .null])), (q1, .inr (1, [.ref u2])), (u2, .inl (cI, 6, .inl (fun _ => nI 0))), (q3, .inr (1, [.null]))] H := hP
  have hD : va_D A [(h0, .inr (0, [.int (nI 0), .int (nI 0), .int (nI 0), .int (nI 0), .ref q1, .null, .null, .null, .null, .null, .null])), (q1, .inr (1, [.ref u2])), (u2, .inl (cI, 6, .inl (fun _ => nI 0))), (q3, .inr (1, [.null]))] := hD
  refine W.widen (k := 3) (n := 8) (by omega) (by omega) ?_
  refine lv_dup hx hb dX0_init_41 rfl ?_
  refine lv_sipush (v := nI 180) hx hb dX0_init_42 (by decide) ?_
  have hPc := hP.sub (ws' := [(q3, .inr (1, [.null]))]) [3] rfl
  have hDc := hD.sub (ws' := [(q3, .inr (1, [.null]))]) [3] (by decide) rfl
  have hFc := va_free (wc := [(q3, .inr (1, [.null]))]) hD hS hA [3] rfl
  refine va_callv (va_runI (As := [.int (nI 180)]) (rest := [.ref q3, .ref h0]) ⟨hx, hb, hml, hown, hg⟩ (c_X1_init l D cI cB aS q3 H.size 180 (by decide) (hDc.weaken (fun _ _ _ _ => trivial))) (cwI_of hg gm_34 if_X1_init rfl rfl ⟨Nat.le_of_ble_eq_true rfl, Nat.le_of_ble_eq_true rfl⟩) (RPZ.pre hK hPc) rfl rfl hl.1 rfl (lv_room (Nat.le_of_ble_eq_true rfl)) dX0_init_45 ⟨Nat.le_of_ble_eq_true rfl, Nat.le_of_ble_eq_true rfl⟩) hS (fun q _ h => hFc q h) hFc (fun u4 t H1 locs ht hvm hw hB hz1 hk1 hS => ?_)
  obtain ⟨hP1, hD1⟩ := hB
  rw [ht] at hP1
  obtain ⟨hP, hD⟩ := va_join (wr := [(h0, .inr (0, [.int (nI 0), .int (nI 0), .int (nI 0), .int (nI 0), .ref q1, .null, .null, .null, .null, .null, .null])), (q1, .inr (1, [.ref u2])), (u2, .inl (cI, 6, .inl (fun _ => nI 0)))]) (w1 := [(q3, .inr (1, [.ref u4])), (u4, .inl (cI, 180, .inl (fun _ => nI 0)))]) hP hD [3] [0, 1, 2] rfl rfl (by decide) (by decide) hk1 hFc hP1 hD1
  clear hP1 hD1 hk1 hFc hPc hDc
  generalize H1 = H at hP hS ⊢
  have hP : va_P D vwCl [(h0, .inr (0, [.int (nI 0), .int (nI 0), .int (nI 0), .int (nI 0), .ref q1, .null, .null, .null, .null, .null, .null])), (q1, .inr (1, [.ref u2])), (u2, .inl (cI, 6, .inl (fun _ => nI 0))), (q3, .inr (1, [.ref u4])), (u4, .inl (cI, 180, .inl (fun _ => nI 0)))] H := hP
  have hD : va_D A [(h0, .inr (0, [.int (nI 0), .int (nI 0), .int (nI 0), .int (nI 0), .ref q1, .null, .null, .null, .null, .null, .null])), (q1, .inr (1, [.ref u2])), (u2, .inl (cI, 6, .inl (fun _ => nI 0))), (q3, .inr (1, [.ref u4])), (u4, .inl (cI, 180, .inl (fun _ => nI 0)))] := hD
  refine W.widen (k := 4) (n := 188) (by omega) (by omega) ?_
  refine va_putF (D := D) (ci := 0) (v := .ref q3) (ty := .object "BirthStreet$Row") (C := RX0) (T := TX0) (N := 11) hx hb hg us_X0 tyX0 tyX0_ok nmX0 hown hK.1 hP hD hS 0 rfl rfl 5 (by decide) (hg _ gm_45) (fun _ h9 => h9) rfl hin rfl (by decide +kernel) rfl rfl (Nat.le_of_ble_eq_true rfl) dX0_init_48 (fun H locs hP hD hS => ?_)
  have hP : va_P D vwCl [(h0, .inr (0, [.int (nI 0), .int (nI 0), .int (nI 0), .int (nI 0), .ref q1, .ref q3, .null, .null, .null, .null, .null])), (q1, .inr (1, [.ref u2])), (u2, .inl (cI, 6, .inl (fun _ => nI 0))), (q3, .inr (1, [.ref u4])), (u4, .inl (cI, 180, .inl (fun _ => nI 0)))] H := hP
  have hD : va_D A [(h0, .inr (0, [.int (nI 0), .int (nI 0), .int (nI 0), .int (nI 0), .ref q1, .ref q3, .null, .null, .null, .null, .null])), (q1, .inr (1, [.ref u2])), (u2, .inl (cI, 6, .inl (fun _ => nI 0))), (q3, .inr (1, [.ref u4])), (u4, .inl (cI, 180, .inl (fun _ => nI 0)))] := hD
  refine lv_aload_n hx hb dX0_init_51 rfl (lv_at hl 0 rfl) ?_
  refine va_new (ci := 1) (fs := [.null]) (C := RX1) (T := TX1) (N := 1) hx hb hg us_X1 tyX1 tyX1_ok hown (hg _ gm_33) (hg _ gm_19) (hg _ gm_3) hK.1 hP hD hS hA rfl (fun j hj => by rcases (show j = 0 by omega) with rfl <;> rfl) (Nat.le_of_ble_eq_true rfl) (Nat.le_of_ble_eq_true rfl) dX0_init_52 (fun q5 H hP hD hS => ?_)
  have hP : va_P D vwCl [(h0, .inr (0, [.int (nI 0), .int (nI 0), .int (nI 0), .int (nI 0), .ref q1, .ref q3, .null, .null, .null, .null, .null])), (q1, .inr (1, [.ref u2])), (u2, .inl (cI, 6, .inl (fun _ => nI 0))), (q3, .inr (1, [.ref u4])), (u4, .inl (cI, 180, .inl (fun _ => nI 0))), (q5, .inr (1, [.null]))] H := hP
  have hD : va_D A [(h0, .inr (0, [.int (nI 0), .int (nI 0), .int (nI 0), .int (nI 0), .ref q1, .ref q3, .null, .null, .null, .null, .null])), (q1, .inr (1, [.ref u2])), (u2, .inl (cI, 6, .inl (fun _ => nI 0))), (q3, .inr (1, [.ref u4])), (u4, .inl (cI, 180, .inl (fun _ => nI 0))), (q5, .inr (1, [.null]))] := hD
  refine W.widen (k := 5) (n := 189) (by omega) (by omega) ?_
  refine lv_dup hx hb dX0_init_55 rfl ?_
  refine lv_bipush (v := nI 6) hx hb dX0_init_56 (by decide) ?_
  have hPc := hP.sub (ws' := [(q5, .inr (1, [.null]))]) [5] rfl
  have hDc := hD.sub (ws' := [(q5, .inr (1, [.null]))]) [5] (by decide) rfl
  have hFc := va_free (wc := [(q5, .inr (1, [.null]))]) hD hS hA [5] rfl
  refine va_callv (va_runI (As := [.int (nI 6)]) (rest := [.ref q5, .ref h0]) ⟨hx, hb, hml, hown, hg⟩ (c_X1_init l D cI cB aS q5 H.size 6 (by decide) (hDc.weaken (fun _ _ _ _ => trivial))) (cwI_of hg gm_34 if_X1_init rfl rfl ⟨Nat.le_of_ble_eq_true rfl, Nat.le_of_ble_eq_true rfl⟩) (RPZ.pre hK hPc) rfl rfl hl.1 rfl (lv_room (Nat.le_of_ble_eq_true rfl)) dX0_init_58 ⟨Nat.le_of_ble_eq_true rfl, Nat.le_of_ble_eq_true rfl⟩) hS (fun q _ h => hFc q h) hFc (fun u6 t H1 locs ht hvm hw hB hz1 hk1 hS => ?_)
  obtain ⟨hP1, hD1⟩ := hB
  rw [ht] at hP1
  obtain ⟨hP, hD⟩ := va_join (wr := [(h0, .inr (0, [.int (nI 0), .int (nI 0), .int (nI 0), .int (nI 0), .ref q1, .ref q3, .null, .null, .null, .null, .null])), (q1, .inr (1, [.ref u2])), (u2, .inl (cI, 6, .inl (fun _ => nI 0))), (q3, .inr (1, [.ref u4])), (u4, .inl (cI, 180, .inl (fun _ => nI 0)))]) (w1 := [(q5, .inr (1, [.ref u6])), (u6, .inl (cI, 6, .inl (fun _ => nI 0)))]) hP hD [5] [0, 1, 2, 3, 4] rfl rfl (by decide) (by decide) hk1 hFc hP1 hD1
  clear hP1 hD1 hk1 hFc hPc hDc
  generalize H1 = H at hP hS ⊢
  have hP : va_P D vwCl [(h0, .inr (0, [.int (nI 0), .int (nI 0), .int (nI 0), .int (nI 0), .ref q1, .ref q3, .null, .null, .null, .null, .null])), (q1, .inr (1, [.ref u2])), (u2, .inl (cI, 6, .inl (fun _ => nI 0))), (q3, .inr (1, [.ref u4])), (u4, .inl (cI, 180, .inl (fun _ => nI 0))), (q5, .inr (1, [.ref u6])), (u6, .inl (cI, 6, .inl (fun _ => nI 0)))] H := hP
  have hD : va_D A [(h0, .inr (0, [.int (nI 0), .int (nI 0), .int (nI 0), .int (nI 0), .ref q1, .ref q3, .null, .null, .null, .null, .null])), (q1, .inr (1, [.ref u2])), (u2, .inl (cI, 6, .inl (fun _ => nI 0))), (q3, .inr (1, [.ref u4])), (u4, .inl (cI, 180, .inl (fun _ => nI 0))), (q5, .inr (1, [.ref u6])), (u6, .inl (cI, 6, .inl (fun _ => nI 0)))] := hD
  refine W.widen (k := 6) (n := 195) (by omega) (by omega) ?_
  refine va_putF (D := D) (ci := 0) (v := .ref q5) (ty := .object "BirthStreet$Row") (C := RX0) (T := TX0) (N := 11) hx hb hg us_X0 tyX0 tyX0_ok nmX0 hown hK.1 hP hD hS 0 rfl rfl 6 (by decide) (hg _ gm_47) (fun _ h9 => h9) rfl hin rfl (by decide +kernel) rfl rfl (Nat.le_of_ble_eq_true rfl) dX0_init_61 (fun H locs hP hD hS => ?_)
  have hP : va_P D vwCl [(h0, .inr (0, [.int (nI 0), .int (nI 0), .int (nI 0), .int (nI 0), .ref q1, .ref q3, .ref q5, .null, .null, .null, .null])), (q1, .inr (1, [.ref u2])), (u2, .inl (cI, 6, .inl (fun _ => nI 0))), (q3, .inr (1, [.ref u4])), (u4, .inl (cI, 180, .inl (fun _ => nI 0))), (q5, .inr (1, [.ref u6])), (u6, .inl (cI, 6, .inl (fun _ => nI 0)))] H := hP
  have hD : va_D A [(h0, .inr (0, [.int (nI 0), .int (nI 0), .int (nI 0), .int (nI 0), .ref q1, .ref q3, .ref q5, .null, .null, .null, .null])), (q1, .inr (1, [.ref u2])), (u2, .inl (cI, 6, .inl (fun _ => nI 0))), (q3, .inr (1, [.ref u4])), (u4, .inl (cI, 180, .inl (fun _ => nI 0))), (q5, .inr (1, [.ref u6])), (u6, .inl (cI, 6, .inl (fun _ => nI 0)))] := hD
  refine lv_aload_n hx hb dX0_init_64 rfl (lv_at hl 0 rfl) ?_
  refine va_new (ci := 1) (fs := [.null]) (C := RX1) (T := TX1) (N := 1) hx hb hg us_X1 tyX1 tyX1_ok hown (hg _ gm_33) (hg _ gm_19) (hg _ gm_3) hK.1 hP hD hS hA rfl (fun j hj => by rcases (show j = 0 by omega) with rfl <;> rfl) (Nat.le_of_ble_eq_true rfl) (Nat.le_of_ble_eq_true rfl) dX0_init_65 (fun q7 H hP hD hS => ?_)
  have hP : va_P D vwCl [(h0, .inr (0, [.int (nI 0), .int (nI 0), .int (nI 0), .int (nI 0), .ref q1, .ref q3, .ref q5, .null, .null, .null, .null])), (q1, .inr (1, [.ref u2])), (u2, .inl (cI, 6, .inl (fun _ => nI 0))), (q3, .inr (1, [.ref u4])), (u4, .inl (cI, 180, .inl (fun _ => nI 0))), (q5, .inr (1, [.ref u6])), (u6, .inl (cI, 6, .inl (fun _ => nI 0))), (q7, .inr (1, [.null]))] H := hP
  have hD : va_D A [(h0, .inr (0, [.int (nI 0), .int (nI 0), .int (nI 0), .int (nI 0), .ref q1, .ref q3, .ref q5, .null, .null, .null, .null])), (q1, .inr (1, [.ref u2])), (u2, .inl (cI, 6, .inl (fun _ => nI 0))), (q3, .inr (1, [.ref u4])), (u4, .inl (cI, 180, .inl (fun _ => nI 0))), (q5, .inr (1, [.ref u6])), (u6, .inl (cI, 6, .inl (fun _ => nI 0))), (q7, .inr (1, [.null]))] := hD
  refine W.widen (k := 7) (n := 196) (by omega) (by omega) ?_
  refine lv_dup hx hb dX0_init_68 rfl ?_
  refine lv_bipush (v := nI 6) hx hb dX0_init_69 (by decide) ?_
  have hPc := hP.sub (ws' := [(q7, .inr (1, [.null]))]) [7] rfl
  have hDc := hD.sub (ws' := [(q7, .inr (1, [.null]))]) [7] (by decide) rfl
  have hFc := va_free (wc := [(q7, .inr (1, [.null]))]) hD hS hA [7] rfl
  refine va_callv (va_runI (As := [.int (nI 6)]) (rest := [.ref q7, .ref h0]) ⟨hx, hb, hml, hown, hg⟩ (c_X1_init l D cI cB aS q7 H.size 6 (by decide) (hDc.weaken (fun _ _ _ _ => trivial))) (cwI_of hg gm_34 if_X1_init rfl rfl ⟨Nat.le_of_ble_eq_true rfl, Nat.le_of_ble_eq_true rfl⟩) (RPZ.pre hK hPc) rfl rfl hl.1 rfl (lv_room (Nat.le_of_ble_eq_true rfl)) dX0_init_71 ⟨Nat.le_of_ble_eq_true rfl, Nat.le_of_ble_eq_true rfl⟩) hS (fun q _ h => hFc q h) hFc (fun u8 t H1 locs ht hvm hw hB hz1 hk1 hS => ?_)
  obtain ⟨hP1, hD1⟩ := hB
  rw [ht] at hP1
  obtain ⟨hP, hD⟩ := va_join (wr := [(h0, .inr (0, [.int (nI 0), .int (nI 0), .int (nI 0), .int (nI 0), .ref q1, .ref q3, .ref q5, .null, .null, .null, .null])), (q1, .inr (1, [.ref u2])), (u2, .inl (cI, 6, .inl (fun _ => nI 0))), (q3, .inr (1, [.ref u4])), (u4, .inl (cI, 180, .inl (fun _ => nI 0))), (q5, .inr (1, [.ref u6])), (u6, .inl (cI, 6, .inl (fun _ => nI 0)))]) (w1 := [(q7, .inr (1, [.ref u8])), (u8, .inl (cI, 6, .inl (fun _ => nI 0)))]) hP hD [7] [0, 1, 2, 3, 4, 5, 6] rfl rfl (by decide) (by decide) hk1 hFc hP1 hD1
  clear hP1 hD1 hk1 hFc hPc hDc
  generalize H1 = H at hP hS ⊢
  have hP : va_P D vwCl [(h0, .inr (0, [.int (nI 0), .int (nI 0), .int (nI 0), .int (nI 0), .ref q1, .ref q3, .ref q5, .null, .null, .null, .null])), (q1, .inr (1, [.ref u2])), (u2, .inl (cI, 6, .inl (fun _ => nI 0))), (q3, .inr (1, [.ref u4])), (u4, .inl (cI, 180, .inl (fun _ => nI 0))), (q5, .inr (1, [.ref u6])), (u6, .inl (cI, 6, .inl (fun _ => nI 0))), (q7, .inr (1, [.ref u8])), (u8, .inl (cI, 6, .inl (fun _ => nI 0)))] H := hP
  have hD : va_D A [(h0, .inr (0, [.int (nI 0), .int (nI 0), .int (nI 0), .int (nI 0), .ref q1, .ref q3, .ref q5, .null, .null, .null, .null])), (q1, .inr (1, [.ref u2])), (u2, .inl (cI, 6, .inl (fun _ => nI 0))), (q3, .inr (1, [.ref u4])), (u4, .inl (cI, 180, .inl (fun _ => nI 0))), (q5, .inr (1, [.ref u6])), (u6, .inl (cI, 6, .inl (fun _ => nI 0))), (q7, .inr (1, [.ref u8])), (u8, .inl (cI, 6, .inl (fun _ => nI 0)))] := hD
  refine W.widen (k := 8) (n := 202) (by omega) (by omega) ?_
  refine va_putF (D := D) (ci := 0) (v := .ref q7) (ty := .object "BirthStreet$Row") (C := RX0) (T := TX0) (N := 11) hx hb hg us_X0 tyX0 tyX0_ok nmX0 hown hK.1 hP hD hS 0 rfl rfl 7 (by decide) (hg _ gm_49) (fun _ h9 => h9) rfl hin rfl (by decide +kernel) rfl rfl (Nat.le_of_ble_eq_true rfl) dX0_init_74 (fun H locs hP hD hS => ?_)
  have hP : va_P D vwCl [(h0, .inr (0, [.int (nI 0), .int (nI 0), .int (nI 0), .int (nI 0), .ref q1, .ref q3, .ref q5, .ref q7, .null, .null, .null])), (q1, .inr (1, [.ref u2])), (u2, .inl (cI, 6, .inl (fun _ => nI 0))), (q3, .inr (1, [.ref u4])), (u4, .inl (cI, 180, .inl (fun _ => nI 0))), (q5, .inr (1, [.ref u6])), (u6, .inl (cI, 6, .inl (fun _ => nI 0))), (q7, .inr (1, [.ref u8])), (u8, .inl (cI, 6, .inl (fun _ => nI 0)))] H := hP
  have hD : va_D A [(h0, .inr (0, [.int (nI 0), .int (nI 0), .int (nI 0), .int (nI 0), .ref q1, .ref q3, .ref q5, .ref q7, .null, .null, .null])), (q1, .inr (1, [.ref u2])), (u2, .inl (cI, 6, .inl (fun _ => nI 0))), (q3, .inr (1, [.ref u4])), (u4, .inl (cI, 180, .inl (fun _ => nI 0))), (q5, .inr (1, [.ref u6])), (u6, .inl (cI, 6, .inl (fun _ => nI 0))), (q7, .inr (1, [.ref u8])), (u8, .inl (cI, 6, .inl (fun _ => nI 0)))] := hD
  refine lv_aload_n hx hb dX0_init_77 rfl (lv_at hl 0 rfl) ?_
  refine va_new (ci := 1) (fs := [.null]) (C := RX1) (T := TX1) (N := 1) hx hb hg us_X1 tyX1 tyX1_ok hown (hg _ gm_33) (hg _ gm_19) (hg _ gm_3) hK.1 hP hD hS hA rfl (fun j hj => by rcases (show j = 0 by omega) with rfl <;> rfl) (Nat.le_of_ble_eq_true rfl) (Nat.le_of_ble_eq_true rfl) dX0_init_78 (fun q9 H hP hD hS => ?_)
  have hP : va_P D vwCl [(h0, .inr (0, [.int (nI 0), .int (nI 0), .int (nI 0), .int (nI 0), .ref q1, .ref q3, .ref q5, .ref q7, .null, .null, .null])), (q1, .inr (1, [.ref u2])), (u2, .inl (cI, 6, .inl (fun _ => nI 0))), (q3, .inr (1, [.ref u4])), (u4, .inl (cI, 180, .inl (fun _ => nI 0))), (q5, .inr (1, [.ref u6])), (u6, .inl (cI, 6, .inl (fun _ => nI 0))), (q7, .inr (1, [.ref u8])), (u8, .inl (cI, 6, .inl (fun _ => nI 0))), (q9, .inr (1, [.null]))] H := hP
  have hD : va_D A [(h0, .inr (0, [.int (nI 0), .int (nI 0), .int (nI 0), .int (nI 0), .ref q1, .ref q3, .ref q5, .ref q7, .null, .null, .null])), (q1, .inr (1, [.ref u2])), (u2, .inl (cI, 6, .inl (fun _ => nI 0))), (q3, .inr (1, [.ref u4])), (u4, .inl (cI, 180, .inl (fun _ => nI 0))), (q5, .inr (1, [.ref u6])), (u6, .inl (cI, 6, .inl (fun _ => nI 0))), (q7, .inr (1, [.ref u8])), (u8, .inl (cI, 6, .inl (fun _ => nI 0))), (q9, .inr (1, [.null]))] := hD
  refine W.widen (k := 9) (n := 203) (by omega) (by omega) ?_
  refine lv_dup hx hb dX0_init_81 rfl ?_
  refine lv_bipush (v := nI 6) hx hb dX0_init_82 (by decide) ?_
  have hPc := hP.sub (ws' := [(q9, .inr (1, [.null]))]) [9] rfl
  have hDc := hD.sub (ws' := [(q9, .inr (1, [.null]))]) [9] (by decide) rfl
  have hFc := va_free (wc := [(q9, .inr (1, [.null]))]) hD hS hA [9] rfl
  refine va_callv (va_runI (As := [.int (nI 6)]) (rest := [.ref q9, .ref h0]) ⟨hx, hb, hml, hown, hg⟩ (c_X1_init l D cI cB aS q9 H.size 6 (by decide) (hDc.weaken (fun _ _ _ _ => trivial))) (cwI_of hg gm_34 if_X1_init rfl rfl ⟨Nat.le_of_ble_eq_true rfl, Nat.le_of_ble_eq_true rfl⟩) (RPZ.pre hK hPc) rfl rfl hl.1 rfl (lv_room (Nat.le_of_ble_eq_true rfl)) dX0_init_84 ⟨Nat.le_of_ble_eq_true rfl, Nat.le_of_ble_eq_true rfl⟩) hS (fun q _ h => hFc q h) hFc (fun u10 t H1 locs ht hvm hw hB hz1 hk1 hS => ?_)
  obtain ⟨hP1, hD1⟩ := hB
  rw [ht] at hP1
  obtain ⟨hP, hD⟩ := va_join (wr := [(h0, .inr (0, [.int (nI 0), .int (nI 0), .int (nI 0), .int (nI 0), .ref q1, .ref q3, .ref q5, .ref q7, .null, .null, .null])), (q1, .inr (1, [.ref u2])), (u2, .inl (cI, 6, .inl (fun _ => nI 0))), (q3, .inr (1, [.ref u4])), (u4, .inl (cI, 180, .inl (fun _ => nI 0))), (q5, .inr (1, [.ref u6])), (u6, .inl (cI, 6, .inl (fun _ => nI 0))), (q7, .inr (1, [.ref u8])), (u8, .inl (cI, 6, .inl (fun _ => nI 0)))]) (w1 := [(q9, .inr (1, [.ref u10])), (u10, .inl (cI, 6, .inl (fun _ => nI 0)))]) hP hD [9] [0, 1, 2, 3, 4, 5, 6, 7, 8] rfl rfl (by decide) (by decide) hk1 hFc hP1 hD1
  clear hP1 hD1 hk1 hFc hPc hDc
  generalize H1 = H at hP hS ⊢
  have hP : va_P D vwCl [(h0, .inr (0, [.int (nI 0), .int (nI 0), .int (nI 0), .int (nI 0), .ref q1, .ref q3, .ref q5, .ref q7, .null, .null, .null])), (q1, .inr (1, [.ref u2])), (u2, .inl (cI, 6, .inl (fun _ => nI 0))), (q3, .inr (1, [.ref u4])), (u4, .inl (cI, 180, .inl (fun _ => nI 0))), (q5, .inr (1, [.ref u6])), (u6, .inl (cI, 6, .inl (fun _ => nI 0))), (q7, .inr (1, [.ref u8])), (u8, .inl (cI, 6, .inl (fun _ => nI 0))), (q9, .inr (1, [.ref u10])), (u10, .inl (cI, 6, .inl (fun _ => nI 0)))] H := hP
  have hD : va_D A [(h0, .inr (0, [.int (nI 0), .int (nI 0), .int (nI 0), .int (nI 0), .ref q1, .ref q3, .ref q5, .ref q7, .null, .null, .null])), (q1, .inr (1, [.ref u2])), (u2, .inl (cI, 6, .inl (fun _ => nI 0))), (q3, .inr (1, [.ref u4])), (u4, .inl (cI, 180, .inl (fun _ => nI 0))), (q5, .inr (1, [.ref u6])), (u6, .inl (cI, 6, .inl (fun _ => nI 0))), (q7, .inr (1, [.ref u8])), (u8, .inl (cI, 6, .inl (fun _ => nI 0))), (q9, .inr (1, [.ref u10])), (u10, .inl (cI, 6, .inl (fun _ => nI 0)))] := hD
  refine W.widen (k := 10) (n := 209) (by omega) (by omega) ?_
  refine va_putF (D := D) (ci := 0) (v := .ref q9) (ty := .object "BirthStreet$Row") (C := RX0) (T := TX0) (N := 11) hx hb hg us_X0 tyX0 tyX0_ok nmX0 hown hK.1 hP hD hS 0 rfl rfl 8 (by decide) (hg _ gm_51) (fun _ h9 => h9) rfl hin rfl (by decide +kernel) rfl rfl (Nat.le_of_ble_eq_true rfl) dX0_init_87 (fun H locs hP hD hS => ?_)
  have hP : va_P D vwCl [(h0, .inr (0, [.int (nI 0), .int (nI 0), .int (nI 0), .int (nI 0), .ref q1, .ref q3, .ref q5, .ref q7, .ref q9, .null, .null])), (q1, .inr (1, [.ref u2])), (u2, .inl (cI, 6, .inl (fun _ => nI 0))), (q3, .inr (1, [.ref u4])), (u4, .inl (cI, 180, .inl (fun _ => nI 0))), (q5, .inr (1, [.ref u6])), (u6, .inl (cI, 6, .inl (fun _ => nI 0))), (q7, .inr (1, [.ref u8])), (u8, .inl (cI, 6, .inl (fun _ => nI 0))), (q9, .inr (1, [.ref u10])), (u10, .inl (cI, 6, .inl (fun _ => nI 0)))] H := hP
  have hD : va_D A [(h0, .inr (0, [.int (nI 0), .int (nI 0), .int (nI 0), .int (nI 0), .ref q1, .ref q3, .ref q5, .ref q7, .ref q9, .null, .null])), (q1, .inr (1, [.ref u2])), (u2, .inl (cI, 6, .inl (fun _ => nI 0))), (q3, .inr (1, [.ref u4])), (u4, .inl (cI, 180, .inl (fun _ => nI 0))), (q5, .inr (1, [.ref u6])), (u6, .inl (cI, 6, .inl (fun _ => nI 0))), (q7, .inr (1, [.ref u8])), (u8, .inl (cI, 6, .inl (fun _ => nI 0))), (q9, .inr (1, [.ref u10])), (u10, .inl (cI, 6, .inl (fun _ => nI 0)))] := hD
  refine lv_aload_n hx hb dX0_init_90 rfl (lv_at hl 0 rfl) ?_
  refine va_new (ci := 1) (fs := [.null]) (C := RX1) (T := TX1) (N := 1) hx hb hg us_X1 tyX1 tyX1_ok hown (hg _ gm_33) (hg _ gm_19) (hg _ gm_3) hK.1 hP hD hS hA rfl (fun j hj => by rcases (show j = 0 by omega) with rfl <;> rfl) (Nat.le_of_ble_eq_true rfl) (Nat.le_of_ble_eq_true rfl) dX0_init_91 (fun q11 H hP hD hS => ?_)
  have hP : va_P D vwCl [(h0, .inr (0, [.int (nI 0), .int (nI 0), .int (nI 0), .int (nI 0), .ref q1, .ref q3, .ref q5, .ref q7, .ref q9, .null, .null])), (q1, .inr (1, [.ref u2])), (u2, .inl (cI, 6, .inl (fun _ => nI 0))), (q3, .inr (1, [.ref u4])), (u4, .inl (cI, 180, .inl (fun _ => nI 0))), (q5, .inr (1, [.ref u6])), (u6, .inl (cI, 6, .inl (fun _ => nI 0))), (q7, .inr (1, [.ref u8])), (u8, .inl (cI, 6, .inl (fun _ => nI 0))), (q9, .inr (1, [.ref u10])), (u10, .inl (cI, 6, .inl (fun _ => nI 0))), (q11, .inr (1, [.null]))] H := hP
  have hD : va_D A [(h0, .inr (0, [.int (nI 0), .int (nI 0), .int (nI 0), .int (nI 0), .ref q1, .ref q3, .ref q5, .ref q7, .ref q9, .null, .null])), (q1, .inr (1, [.ref u2])), (u2, .inl (cI, 6, .inl (fun _ => nI 0))), (q3, .inr (1, [.ref u4])), (u4, .inl (cI, 180, .inl (fun _ => nI 0))), (q5, .inr (1, [.ref u6])), (u6, .inl (cI, 6, .inl (fun _ => nI 0))), (q7, .inr (1, [.ref u8])), (u8, .inl (cI, 6, .inl (fun _ => nI 0))), (q9, .inr (1, [.ref u10])), (u10, .inl (cI, 6, .inl (fun _ => nI 0))), (q11, .inr (1, [.null]))] := hD
  refine W.widen (k := 11) (n := 210) (by omega) (by omega) ?_
  refine lv_dup hx hb dX0_init_94 rfl ?_
  refine lv_bipush (v := nI 6) hx hb dX0_init_95 (by decide) ?_
  have hPc := hP.sub (ws' := [(q11, .inr (1, [.null]))]) [11] rfl
  have hDc := hD.sub (ws' := [(q11, .inr (1, [.null]))]) [11] (by decide) rfl
  have hFc := va_free (wc := [(q11, .inr (1, [.null]))]) hD hS hA [11] rfl
  refine va_callv (va_runI (As := [.int (nI 6)]) (rest := [.ref q11, .ref h0]) ⟨hx, hb, hml, hown, hg⟩ (c_X1_init l D cI cB aS q11 H.size 6 (by decide) (hDc.weaken (fun _ _ _ _ => trivial))) (cwI_of hg gm_34 if_X1_init rfl rfl ⟨Nat.le_of_ble_eq_true rfl, Nat.le_of_ble_eq_true rfl⟩) (RPZ.pre hK hPc) rfl rfl hl.1 rfl (lv_room (Nat.le_of_ble_eq_true rfl)) dX0_init_97 ⟨Nat.le_of_ble_eq_true rfl, Nat.le_of_ble_eq_true rfl⟩) hS (fun q _ h => hFc q h) hFc (fun u12 t H1 locs ht hvm hw hB hz1 hk1 hS => ?_)
  obtain ⟨hP1, hD1⟩ := hB
  rw [ht] at hP1
  obtain ⟨hP, hD⟩ := va_join (wr := [(h0, .inr (0, [.int (nI 0), .int (nI 0), .int (nI 0), .int (nI 0), .ref q1, .ref q3, .ref q5, .ref q7, .ref q9, .null, .null])), (q1, .inr (1, [.ref u2])), (u2, .inl (cI, 6, .inl (fun _ => nI 0))), (q3, .inr (1, [.ref u4])), (u4, .inl (cI, 180, .inl (fun _ => nI 0))), (q5, .inr (1, [.ref u6])), (u6, .inl (cI, 6, .inl (fun _ => nI 0))), (q7, .inr (1, [.ref u8])), (u8, .inl (cI, 6, .inl (fun _ => nI 0))), (q9, .inr (1, [.ref u10])), (u10, .inl (cI, 6, .inl (fun _ => nI 0)))]) (w1 := [(q11, .inr (1, [.ref u12])), (u12, .inl (cI, 6, .inl (fun _ => nI 0)))]) hP hD [11] [0, 1, 2, 3, 4, 5, 6, 7, 8, 9, 10] rfl rfl (by decide) (by decide) hk1 hFc hP1 hD1
  clear hP1 hD1 hk1 hFc hPc hDc
  generalize H1 = H at hP hS ⊢
  have hP : va_P D vwCl [(h0, .inr (0, [.int (nI 0), .int (nI 0), .int (nI 0), .int (nI 0), .ref q1, .ref q3, .ref q5, .ref q7, .ref q9, .null, .null])), (q1, .inr (1, [.ref u2])), (u2, .inl (cI, 6, .inl (fun _ => nI 0))), (q3, .inr (1, [.ref u4])), (u4, .inl (cI, 180, .inl (fun _ => nI 0))), (q5, .inr (1, [.ref u6])), (u6, .inl (cI, 6, .inl (fun _ => nI 0))), (q7, .inr (1, [.ref u8])), (u8, .inl (cI, 6, .inl (fun _ => nI 0))), (q9, .inr (1, [.ref u10])), (u10, .inl (cI, 6, .inl (fun _ => nI 0))), (q11, .inr (1, [.ref u12])), (u12, .inl (cI, 6, .inl (fun _ => nI 0)))] H := hP
  have hD : va_D A [(h0, .inr (0, [.int (nI 0), .int (nI 0), .int (nI 0), .int (nI 0), .ref q1, .ref q3, .ref q5, .ref q7, .ref q9, .null, .null])), (q1, .inr (1, [.ref u2])), (u2, .inl (cI, 6, .inl (fun _ => nI 0))), (q3, .inr (1, [.ref u4])), (u4, .inl (cI, 180, .inl (fun _ => nI 0))), (q5, .inr (1, [.ref u6])), (u6, .inl (cI, 6, .inl (fun _ => nI 0))), (q7, .inr (1, [.ref u8])), (u8, .inl (cI, 6, .inl (fun _ => nI 0))), (q9, .inr (1, [.ref u10])), (u10, .inl (cI, 6, .inl (fun _ => nI 0))), (q11, .inr (1, [.ref u12])), (u12, .inl (cI, 6, .inl (fun _ => nI 0)))] := hD
  refine W.widen (k := 12) (n := 216) (by omega) (by omega) ?_
  refine va_putF (D := D) (ci := 0) (v := .ref q11) (ty := .object "BirthStreet$Row") (C := RX0) (T := TX0) (N := 11) hx hb hg us_X0 tyX0 tyX0_ok nmX0 hown hK.1 hP hD hS 0 rfl rfl 9 (by decide) (hg _ gm_53) (fun _ h9 => h9) rfl hin rfl (by decide +kernel) rfl rfl (Nat.le_of_ble_eq_true rfl) dX0_init_100 (fun H locs hP hD hS => ?_)
  have hP : va_P D vwCl [(h0, .inr (0, [.int (nI 0), .int (nI 0), .int (nI 0), .int (nI 0), .ref q1, .ref q3, .ref q5, .ref q7, .ref q9, .ref q11, .null])), (q1, .inr (1, [.ref u2])), (u2, .inl (cI, 6, .inl (fun _ => nI 0))), (q3, .inr (1, [.ref u4])), (u4, .inl (cI, 180, .inl (fun _ => nI 0))), (q5, .inr (1, [.ref u6])), (u6, .inl (cI, 6, .inl (fun _ => nI 0))), (q7, .inr (1, [.ref u8])), (u8, .inl (cI, 6, .inl (fun _ => nI 0))), (q9, .inr (1, [.ref u10])), (u10, .inl (cI, 6, .inl (fun _ => nI 0))), (q11, .inr (1, [.ref u12])), (u12, .inl (cI, 6, .inl (fun _ => nI 0)))] H := hP
  have hD : va_D A [(h0, .inr (0, [.int (nI 0), .int (nI 0), .int (nI 0), .int (nI 0), .ref q1, .ref q3, .ref q5, .ref q7, .ref q9, .ref q11, .null])), (q1, .inr (1, [.ref u2])), (u2, .inl (cI, 6, .inl (fun _ => nI 0))), (q3, .inr (1, [.ref u4])), (u4, .inl (cI, 180, .inl (fun _ => nI 0))), (q5, .inr (1, [.ref u6])), (u6, .inl (cI, 6, .inl (fun _ => nI 0))), (q7, .inr (1, [.ref u8])), (u8, .inl (cI, 6, .inl (fun _ => nI 0))), (q9, .inr (1, [.ref u10])), (u10, .inl (cI, 6, .inl (fun _ => nI 0))), (q11, .inr (1, [.ref u12])), (u12, .inl (cI, 6, .inl (fun _ => nI 0)))] := hD
  refine lv_aload_n hx hb dX0_init_103 rfl (lv_at hl 0 rfl) ?_
  refine va_new (ci := 1) (fs := [.null]) (C := RX1) (T := TX1) (N := 1) hx hb hg us_X1 tyX1 tyX1_ok hown (hg _ gm_33) (hg _ gm_19) (hg _ gm_3) hK.1 hP hD hS hA rfl (fun j hj => by rcases (show j = 0 by omega) with rfl <;> rfl) (Nat.le_of_ble_eq_true rfl) (Nat.le_of_ble_eq_true rfl) dX0_init_104 (fun q13 H hP hD hS => ?_)
  have hP : va_P D vwCl [(h0, .inr (0, [.int (nI 0), .int (nI 0), .int (nI 0), .int (nI 0), .ref q1, .ref q3, .ref q5, .ref q7, .ref q9, .ref q11, .null])), (q1, .inr (1, [.ref u2])), (u2, .inl (cI, 6, .inl (fun _ => nI 0))), (q3, .inr (1, [.ref u4])), (u4, .inl (cI, 180, .inl (fun _ => nI 0))), (q5, .inr (1, [.ref u6])), (u6, .inl (cI, 6, .inl (fun _ => nI 0))), (q7, .inr (1, [.ref u8])), (u8, .inl (cI, 6, .inl (fun _ => nI 0))), (q9, .inr (1, [.ref u10])), (u10, .inl (cI, 6, .inl (fun _ => nI 0))), (q11, .inr (1, [.ref u12])), (u12, .inl (cI, 6, .inl (fun _ => nI 0))), (q13, .inr (1, [.null]))] H := hP
  have hD : va_D A [(h0, .inr (0, [.int (nI 0), .int (nI 0), .int (nI 0), .int (nI 0), .ref q1, .ref q3, .ref q5, .ref q7, .ref q9, .ref q11, .null])), (q1, .inr (1, [.ref u2])), (u2, .inl (cI, 6, .inl (fun _ => nI 0))), (q3, .inr (1, [.ref u4])), (u4, .inl (cI, 180, .inl (fun _ => nI 0))), (q5, .inr (1, [.ref u6])), (u6, .inl (cI, 6, .inl (fun _ => nI 0))), (q7, .inr (1, [.ref u8])), (u8, .inl (cI, 6, .inl (fun _ => nI 0))), (q9, .inr (1, [.ref u10])), (u10, .inl (cI, 6, .inl (fun _ => nI 0))), (q11, .inr (1, [.ref u12])), (u12, .inl (cI, 6, .inl (fun _ => nI 0))), (q13, .inr (1, [.null]))] := hD
  refine W.widen (k := 13) (n := 217) (by omega) (by omega) ?_
  refine lv_dup hx hb dX0_init_107 rfl ?_
  refine lv_bipush (v := nI 6) hx hb dX0_init_108 (by decide) ?_
  have hPc := hP.sub (ws' := [(q13, .inr (1, [.null]))]) [13] rfl
  have hDc := hD.sub (ws' := [(q13, .inr (1, [.null]))]) [13] (by decide) rfl
  have hFc := va_free (wc := [(q13, .inr (1, [.null]))]) hD hS hA [13] rfl
  refine va_callv (va_runI (As := [.int (nI 6)]) (rest := [.ref q13, .ref h0]) ⟨hx, hb, hml, hown, hg⟩ (c_X1_init l D cI cB aS q13 H.size 6 (by decide) (hDc.weaken (fun _ _ _ _ => trivial))) (cwI_of hg gm_34 if_X1_init rfl rfl ⟨Nat.le_of_ble_eq_true rfl, Nat.le_of_ble_eq_true rfl⟩) (RPZ.pre hK hPc) rfl rfl hl.1 rfl (lv_room (Nat.le_of_ble_eq_true rfl)) dX0_init_110 ⟨Nat.le_of_ble_eq_true rfl, Nat.le_of_ble_eq_true rfl⟩) hS (fun q _ h => hFc q h) hFc (fun u14 t H1 locs ht hvm hw hB hz1 hk1 hS => ?_)
  obtain ⟨hP1, hD1⟩ := hB
  rw [ht] at hP1
  obtain ⟨hP, hD⟩ := va_join (wr := [(h0, .inr (0, [.int (nI 0), .int (nI 0), .int (nI 0), .int (nI 0), .ref q1, .ref q3, .ref q5, .ref q7, .ref q9, .ref q11, .null])), (q1, .inr (1, [.ref u2])), (u2, .inl (cI, 6, .inl (fun _ => nI 0))), (q3, .inr (1, [.ref u4])), (u4, .inl (cI, 180, .inl (fun _ => nI 0))), (q5, .inr (1, [.ref u6])), (u6, .inl (cI, 6, .inl (fun _ => nI 0))), (q7, .inr (1, [.ref u8])), (u8, .inl (cI, 6, .inl (fun _ => nI 0))), (q9, .inr (1, [.ref u10])), (u10, .inl (cI, 6, .inl (fun _ => nI 0))), (q11, .inr (1, [.ref u12])), (u12, .inl (cI, 6, .inl (fun _ => nI 0)))]) (w1 := [(q13, .inr (1, [.ref u14])), (u14, .inl (cI, 6, .inl (fun _ => nI 0)))]) hP hD [13] [0, 1, 2, 3, 4, 5, 6, 7, 8, 9, 10, 11, 12] rfl rfl (by decide) (by decide) hk1 hFc hP1 hD1
  clear hP1 hD1 hk1 hFc hPc hDc
  generalize H1 = H at hP hS ⊢
  have hP : va_P D vwCl [(h0, .inr (0, [.int (nI 0), .int (nI 0), .int (nI 0), .int (nI 0), .ref q1, .ref q3, .ref q5, .ref q7, .ref q9, .ref q11, .null])), (q1, .inr (1, [.ref u2])), (u2, .inl (cI, 6, .inl (fun _ => nI 0))), (q3, .inr (1, [.ref u4])), (u4, .inl (cI, 180, .inl (fun _ => nI 0))), (q5, .inr (1, [.ref u6])), (u6, .inl (cI, 6, .inl (fun _ => nI 0))), (q7, .inr (1, [.ref u8])), (u8, .inl (cI, 6, .inl (fun _ => nI 0))), (q9, .inr (1, [.ref u10])), (u10, .inl (cI, 6, .inl (fun _ => nI 0))), (q11, .inr (1, [.ref u12])), (u12, .inl (cI, 6, .inl (fun _ => nI 0))), (q13, .inr (1, [.ref u14])), (u14, .inl (cI, 6, .inl (fun _ => nI 0)))] H := hP
  have hD : va_D A [(h0, .inr (0, [.int (nI 0), .int (nI 0), .int (nI 0), .int (nI 0), .ref q1, .ref q3, .ref q5, .ref q7, .ref q9, .ref q11, .null])), (q1, .inr (1, [.ref u2])), (u2, .inl (cI, 6, .inl (fun _ => nI 0))), (q3, .inr (1, [.ref u4])), (u4, .inl (cI, 180, .inl (fun _ => nI 0))), (q5, .inr (1, [.ref u6])), (u6, .inl (cI, 6, .inl (fun _ => nI 0))), (q7, .inr (1, [.ref u8])), (u8, .inl (cI, 6, .inl (fun _ => nI 0))), (q9, .inr (1, [.ref u10])), (u10, .inl (cI, 6, .inl (fun _ => nI 0))), (q11, .inr (1, [.ref u12])), (u12, .inl (cI, 6, .inl (fun _ => nI 0))), (q13, .inr (1, [.ref u14])), (u14, .inl (cI, 6, .inl (fun _ => nI 0)))] := hD
  refine W.widen (k := 14) (n := 223) (by omega) (by omega) ?_
  refine va_putF (D := D) (ci := 0) (v := .ref q13) (ty := .object "BirthStreet$Row") (C := RX0) (T := TX0) (N := 11) hx hb hg us_X0 tyX0 tyX0_ok nmX0 hown hK.1 hP hD hS 0 rfl rfl 10 (by decide) (hg _ gm_54) (fun _ h9 => h9) rfl hin rfl (by decide +kernel) rfl rfl (Nat.le_of_ble_eq_true rfl) dX0_init_113 (fun H locs hP hD hS => ?_)
  have hP : va_P D vwCl [(h0, .inr (0, [.int (nI 0), .int (nI 0), .int (nI 0), .int (nI 0), .ref q1, .ref q3, .ref q5, .ref q7, .ref q9, .ref q11, .ref q13])), (q1, .inr (1, [.ref u2])), (u2, .inl (cI, 6, .inl (fun _ => nI 0))), (q3, .inr (1, [.ref u4])), (u4, .inl (cI, 180, .inl (fun _ => nI 0))), (q5, .inr (1, [.ref u6])), (u6, .inl (cI, 6, .inl (fun _ => nI 0))), (q7, .inr (1, [.ref u8])), (u8, .inl (cI, 6, .inl (fun _ => nI 0))), (q9, .inr (1, [.ref u10])), (u10, .inl (cI, 6, .inl (fun _ => nI 0))), (q11, .inr (1, [.ref u12])), (u12, .inl (cI, 6, .inl (fun _ => nI 0))), (q13, .inr (1, [.ref u14])), (u14, .inl (cI, 6, .inl (fun _ => nI 0)))] H := hP
  have hD : va_D A [(h0, .inr (0, [.int (nI 0), .int (nI 0), .int (nI 0), .int (nI 0), .ref q1, .ref q3, .ref q5, .ref q7, .ref q9, .ref q11, .ref q13])), (q1, .inr (1, [.ref u2])), (u2, .inl (cI, 6, .inl (fun _ => nI 0))), (q3, .inr (1, [.ref u4])), (u4, .inl (cI, 180, .inl (fun _ => nI 0))), (q5, .inr (1, [.ref u6])), (u6, .inl (cI, 6, .inl (fun _ => nI 0))), (q7, .inr (1, [.ref u8])), (u8, .inl (cI, 6, .inl (fun _ => nI 0))), (q9, .inr (1, [.ref u10])), (u10, .inl (cI, 6, .inl (fun _ => nI 0))), (q11, .inr (1, [.ref u12])), (u12, .inl (cI, 6, .inl (fun _ => nI 0))), (q13, .inr (1, [.ref u14])), (u14, .inl (cI, 6, .inl (fun _ => nI 0)))] := hD
  have hP9 := hP.sub (ws' := (fun (u : Nat → Nat) => [(u 0, .inr (0, [.int (nI 0), .int (nI 0), .int (nI 0), .int (nI 0), .ref (u 1), .ref (u 2), .ref (u 3), .ref (u 4), .ref (u 5), .ref (u 6), .ref (u 7)])), (u 1, .inr (1, [.ref (u 8)])), (u 2, .inr (1, [.ref (u 9)])), (u 3, .inr (1, [.ref (u 10)])), (u 4, .inr (1, [.ref (u 11)])), (u 5, .inr (1, [.ref (u 12)])), (u 6, .inr (1, [.ref (u 13)])), (u 7, .inr (1, [.ref (u 14)])), (u 8, .inl (cI, 6, .inl (fun _ => nI 0))), (u 9, .inl (cI, 180, .inl (fun _ => nI 0))), (u 10, .inl (cI, 6, .inl (fun _ => nI 0))), (u 11, .inl (cI, 6, .inl (fun _ => nI 0))), (u 12, .inl (cI, 6, .inl (fun _ => nI 0))), (u 13, .inl (cI, 6, .inl (fun _ => nI 0))), (u 14, .inl (cI, 6, .inl (fun _ => nI 0)))]) (fun i => ([h0, q1, q3, q5, q7, q9, q11, q13, u2, u4, u6, u8, u10, u12, u14] : List Nat).getD i 0)) [0, 1, 3, 5, 7, 9, 11, 13, 2, 4, 6, 8, 10, 12, 14] rfl
  have hD9 := hD.sub (ws' := (fun (u : Nat → Nat) => [(u 0, .inr (0, [.int (nI 0), .int (nI 0), .int (nI 0), .int (nI 0), .ref (u 1), .ref (u 2), .ref (u 3), .ref (u 4), .ref (u 5), .ref (u 6), .ref (u 7)])), (u 1, .inr (1, [.ref (u 8)])), (u 2, .inr (1, [.ref (u 9)])), (u 3, .inr (1, [.ref (u 10)])), (u 4, .inr (1, [.ref (u 11)])), (u 5, .inr (1, [.ref (u 12)])), (u 6, .inr (1, [.ref (u 13)])), (u 7, .inr (1, [.ref (u 14)])), (u 8, .inl (cI, 6, .inl (fun _ => nI 0))), (u 9, .inl (cI, 180, .inl (fun _ => nI 0))), (u 10, .inl (cI, 6, .inl (fun _ => nI 0))), (u 11, .inl (cI, 6, .inl (fun _ => nI 0))), (u 12, .inl (cI, 6, .inl (fun _ => nI 0))), (u 13, .inl (cI, 6, .inl (fun _ => nI 0))), (u 14, .inl (cI, 6, .inl (fun _ => nI 0)))]) (fun i => ([h0, q1, q3, q5, q7, q9, q11, q13, u2, u4, u6, u8, u10, u12, u14] : List Nat).getD i 0)) [0, 1, 3, 5, 7, 9, 11, 13, 2, 4, 6, 8, 10, 12, 14] (by decide) rfl
  subst hAe
  exact W.vret hx hb hr (fun t ht hW => ⟨⟨fun i => ([h0, q1, q3, q5, q7, q9, q11, q13, u2, u4, u6, u8, u10, u12, u14] : List Nat).getD i 0, rfl, rfl, by rw [ht]; exact hP9, hD9⟩, hS.F ht⟩) hS.2.2 dX0_init_116
end
section
theorem if_X0_init : ifacts RX0 yX0_init cX0_init 1 0 := ⟨⟨rfl, by decide +kernel, by decide +kernel, by decide +kernel⟩, rfl, gm_30, gm_4, gm_31⟩
set_option maxRecDepth 100000 in
theorem XW_new {cI : ClassId} {a : Nat → Nat} : ([((a 0), .inr (2, [.ref (a 1), .int (nI 0), .int (nI 0), .int (nI 0), .ref (a 3), .ref (a 5), .ref (a 20), .int (nI 0), .ref (a 35), .ref (a 37), .ref (a 39)])),
  ((a 1), .inr (1, [.ref (a 2)])),
  ((a 2), .inl (cI, 19, .inl (fun _ => nI 0))),
  ((a 3), .inr (1, [.ref (a 4)])),
  ((a 4), .inl (cI, 6, .inl (fun _ => nI 0))),
  ((a 5), .inr (0, [.int (nI 0), .int (nI 0), .int (nI 0), .int (nI 0), .ref (a 6), .ref (a 7), .ref (a 8), .ref (a 9), .ref (a 10), .ref (a 11), .ref (a 12)])),
  ((a 6), .inr (1, [.ref (a 13)])),
  ((a 7), .inr (1, [.ref (a 14)])),
  ((a 8), .inr (1, [.ref (a 15)])),
  ((a 9), .inr (1, [.ref (a 16)])),
  ((a 10), .inr (1, [.ref (a 17)])),
  ((a 11), .inr (1, [.ref (a 18)])),
  ((a 12), .inr (1, [.ref (a 19)])),
  ((a 13), .inl (cI, 6, .inl (fun _ => nI 0))),
  ((a 14), .inl (cI, 180, .inl (fun _ => nI 0))),
  ((a 15), .inl (cI, 6, .inl (fun _ => nI 0))),
  ((a 16), .inl (cI, 6, .inl (fun _ => nI 0))),
  ((a 17), .inl (cI, 6, .inl (fun _ => nI 0))),
  ((a 18), .inl (cI, 6, .inl (fun _ => nI 0))),
  ((a 19), .inl (cI, 6, .inl (fun _ => nI 0))),
  ((a 20), .inr (0, [.int (nI 0), .int (nI 0), .int (nI 0), .int (nI 0), .ref (a 21), .ref (a 22), .ref (a 23), .ref (a 24), .ref (a 25), .ref (a 26), .ref (a 27)])),
  ((a 21), .inr (1, [.ref (a 28)])),
  ((a 22), .inr (1, [.ref (a 29)])),
  ((a 23), .inr (1, [.ref (a 30)])),
  ((a 24), .inr (1, [.ref (a 31)])),
  ((a 25), .inr (1, [.ref (a 32)])),
  ((a 26), .inr (1, [.ref (a 33)])),
  ((a 27), .inr (1, [.ref (a 34)])),
  ((a 28), .inl (cI, 6, .inl (fun _ => nI 0))),
  ((a 29), .inl (cI, 180, .inl (fun _ => nI 0))),
  ((a 30), .inl (cI, 6, .inl (fun _ => nI 0))),
  ((a 31), .inl (cI, 6, .inl (fun _ => nI 0))),
  ((a 32), .inl (cI, 6, .inl (fun _ => nI 0))),
  ((a 33), .inl (cI, 6, .inl (fun _ => nI 0))),
  ((a 34), .inl (cI, 6, .inl (fun _ => nI 0))),
  ((a 35), .inr (1, [.ref (a 36)])),
  ((a 36), .inl (cI, 6, .inl (fun _ => nI 0))),
  ((a 37), .inr (1, [.ref (a 38)])),
  ((a 38), .inl (cI, 31, .inl (fun _ => nI 0))),
  ((a 39), .inr (1, [.ref (a 40)])),
  ((a 40), .inl (cI, 40, .inl (fun _ => nI 0)))] : va_W) = XW cI a 0 0 0 (nI 0) 0 0 0 (nI 0) 0 0 0 (nI 0) (fun _ => nI 0) (fun _ => nI 0) (fun _ => nI 0) (fun _ => nI 0) (fun _ => nI 0) (fun _ => nI 0) (fun _ => nI 0) (fun _ => nI 0) (fun _ => nI 0) (fun _ => nI 0) (fun _ => nI 0) (fun _ => nI 0) (fun _ => nI 0) (fun _ => nI 0) (fun _ => nI 0) (fun _ => nI 0) (fun _ => nI 0) (fun _ => nI 0) (fun _ => nI 0) := rfl
theorem x2_end {p : Program} {l : Launch} {e : Env} {R : Room} {s : State} {m : MethodId} {args : Array Value} {below : List Frame} {meth : Method} {c : Code} {cc : ByteArray} {pc : Nat} {ls : Array Slot} {H : Heap} {locs : List Loc} {D : va_G} {cI : ClassId} {a : Nat → Nat} {h0 sz : Nat} {w : va_W} {cells slots : Nat} {A : Nat → Prop} (hAe : va_A w sz = A) (hx : p.tables.exec = Jvm.exec) (hb : c.code = cc) (hr : meth.sig.returnType = none) (hlocks : meth.locks = false) (hS : va_S A s.heap H locs) (e0 : a 0 = h0) (hP : va_P D vwCl ([((a 0), .inr (2, [.ref (a 1), .int (nI 0), .int (nI 0), .int (nI 0), .ref (a 3), .ref (a 5), .ref (a 20), .int (nI 0), .ref (a 35), .ref (a 37), .ref (a 39)])),
  ((a 1), .inr (1, [.ref (a 2)])),
  ((a 2), .inl (cI, 19, .inl (fun _ => nI 0))),
  ((a 3), .inr (1, [.ref (a 4)])),
  ((a 4), .inl (cI, 6, .inl (fun _ => nI 0))),
  ((a 5), .inr (0, [.int (nI 0), .int (nI 0), .int (nI 0), .int (nI 0), .ref (a 6), .ref (a 7), .ref (a 8), .ref (a 9), .ref (a 10), .ref (a 11), .ref (a 12)])),
  ((a 6), .inr (1, [.ref (a 13)])),
  ((a 7), .inr (1, [.ref (a 14)])),
  ((a 8), .inr (1, [.ref (a 15)])),
  ((a 9), .inr (1, [.ref (a 16)])),
  ((a 10), .inr (1, [.ref (a 17)])),
  ((a 11), .inr (1, [.ref (a 18)])),
  ((a 12), .inr (1, [.ref (a 19)])),
  ((a 13), .inl (cI, 6, .inl (fun _ => nI 0))),
  ((a 14), .inl (cI, 180, .inl (fun _ => nI 0))),
  ((a 15), .inl (cI, 6, .inl (fun _ => nI 0))),
  ((a 16), .inl (cI, 6, .inl (fun _ => nI 0))),
  ((a 17), .inl (cI, 6, .inl (fun _ => nI 0))),
  ((a 18), .inl (cI, 6, .inl (fun _ => nI 0))),
  ((a 19), .inl (cI, 6, .inl (fun _ => nI 0))),
  ((a 20), .inr (0, [.int (nI 0), .int (nI 0), .int (nI 0), .int (nI 0), .ref (a 21), .ref (a 22), .ref (a 23), .ref (a 24), .ref (a 25), .ref (a 26), .ref (a 27)])),
  ((a 21), .inr (1, [.ref (a 28)])),
  ((a 22), .inr (1, [.ref (a 29)])),
  ((a 23), .inr (1, [.ref (a 30)])),
  ((a 24), .inr (1, [.ref (a 31)])),
  ((a 25), .inr (1, [.ref (a 32)])),
  ((a 26), .inr (1, [.ref (a 33)])),
  ((a 27), .inr (1, [.ref (a 34)])),
  ((a 28), .inl (cI, 6, .inl (fun _ => nI 0))),
  ((a 29), .inl (cI, 180, .inl (fun _ => nI 0))),
  ((a 30), .inl (cI, 6, .inl (fun _ => nI 0))),
  ((a 31), .inl (cI, 6, .inl (fun _ => nI 0))),
  ((a 32), .inl (cI, 6, .inl (fun _ => nI 0))),
  ((a 33), .inl (cI, 6, .inl (fun _ => nI 0))),
  ((a 34), .inl (cI, 6, .inl (fun _ => nI 0))),
  ((a 35), .inr (1, [.ref (a 36)])),
  ((a 36), .inl (cI, 6, .inl (fun _ => nI 0))),
  ((a 37), .inr (1, [.ref (a 38)])),
  ((a 38), .inl (cI, 31, .inl (fun _ => nI 0))),
  ((a 39), .inr (1, [.ref (a 40)])),
  ((a 40), .inl (cI, 40, .inl (fun _ => nI 0)))]) H) (hD : va_D A ([((a 0), .inr (2, [.ref (a 1), .int (nI 0), .int (nI 0), .int (nI 0), .ref (a 3), .ref (a 5), .ref (a 20), .int (nI 0), .ref (a 35), .ref (a 37), .ref (a 39)])),
  ((a 1), .inr (1, [.ref (a 2)])),
  ((a 2), .inl (cI, 19, .inl (fun _ => nI 0))),
  ((a 3), .inr (1, [.ref (a 4)])),
  ((a 4), .inl (cI, 6, .inl (fun _ => nI 0))),
  ((a 5), .inr (0, [.int (nI 0), .int (nI 0), .int (nI 0), .int (nI 0), .ref (a 6), .ref (a 7), .ref (a 8), .ref (a 9), .ref (a 10), .ref (a 11), .ref (a 12)])),
  ((a 6), .inr (1, [.ref (a 13)])),
  ((a 7), .inr (1, [.ref (a 14)])),
  ((a 8), .inr (1, [.ref (a 15)])),
  ((a 9), .inr (1, [.ref (a 16)])),
  ((a 10), .inr (1, [.ref (a 17)])),
  ((a 11), .inr (1, [.ref (a 18)])),
  ((a 12), .inr (1, [.ref (a 19)])),
  ((a 13), .inl (cI, 6, .inl (fun _ => nI 0))),
  ((a 14), .inl (cI, 180, .inl (fun _ => nI 0))),
  ((a 15), .inl (cI, 6, .inl (fun _ => nI 0))),
  ((a 16), .inl (cI, 6, .inl (fun _ => nI 0))),
  ((a 17), .inl (cI, 6, .inl (fun _ => nI 0))),
  ((a 18), .inl (cI, 6, .inl (fun _ => nI 0))),
  ((a 19), .inl (cI, 6, .inl (fun _ => nI 0))),
  ((a 20), .inr (0, [.int (nI 0), .int (nI 0), .int (nI 0), .int (nI 0), .ref (a 21), .ref (a 22), .ref (a 23), .ref (a 24), .ref (a 25), .ref (a 26), .ref (a 27)])),
  ((a 21), .inr (1, [.ref (a 28)])),
  ((a 22), .inr (1, [.ref (a 29)])),
  ((a 23), .inr (1, [.ref (a 30)])),
  ((a 24), .inr (1, [.ref (a 31)])),
  ((a 25), .inr (1, [.ref (a 32)])),
  ((a 26), .inr (1, [.ref (a 33)])),
  ((a 27), .inr (1, [.ref (a 34)])),
  ((a 28), .inl (cI, 6, .inl (fun _ => nI 0))),
  ((a 29), .inl (cI, 180, .inl (fun _ => nI 0))),
  ((a 30), .inl (cI, 6, .inl (fun _ => nI 0))),
  ((a 31), .inl (cI, 6, .inl (fun _ => nI 0))),
  ((a 32), .inl (cI, 6, .inl (fun _ => nI 0))),
  ((a 33), .inl (cI, 6, .inl (fun _ => nI 0))),
  ((a 34), .inl (cI, 6, .inl (fun _ => nI 0))),
  ((a 35), .inr (1, [.ref (a 36)])),
  ((a 36), .inl (cI, 6, .inl (fun _ => nI 0))),
  ((a 37), .inr (1, [.ref (a 38)])),
  ((a 38), .inl (cI, 31, .inl (fun _ => nI 0))),
  ((a 39), .inr (1, [.ref (a 40)])),
  ((a 40), .inl (cI, 40, .inl (fun _ => nI 0)))])) (hdg : decode cc pc = .ok (.return_, 1)) : W p l e R s m args below meth c H locs cells slots (MQ below (cqv D sz w (fun u : Nat → Nat => XW cI u 0 0 0 (nI 0) 0 0 0 (nI 0) 0 0 0 (nI 0) (fun _ => nI 0) (fun _ => nI 0) (fun _ => nI 0) (fun _ => nI 0) (fun _ => nI 0) (fun _ => nI 0) (fun _ => nI 0) (fun _ => nI 0) (fun _ => nI 0) (fun _ => nI 0) (fun _ => nI 0) (fun _ => nI 0) (fun _ => nI 0) (fun _ => nI 0) (fun _ => nI 0) (fun _ => nI 0) (fun _ => nI 0) (fun _ => nI 0) (fun _ => nI 0)) (fun u : Nat → Nat => u 0 = h0)) args s cells slots A) (F0 m pc ls []) := by
  subst hAe
  exact W.vret hx hb hr (fun t ht hW => ⟨⟨a, rfl, e0, by rw [ht]; exact P_eq hP XW_new, D_eq hD XW_new⟩, hS.F ht⟩) hS.2.2 hdg
abbrev rm_X2_init : Room := { frames := 3, cells := 40, slots := 575, locals := 53 }
set_option maxRecDepth 100000 in
set_option maxHeartbeats 4000000 in
theorem c_X2_init (l : Launch) (D : va_G) (cI cB : ClassId) (aS : Nat) (h0 sz : Nat) (hD0 : va_D (fun _ => True) [(h0, .inr (2, [.null, .int 0, .int 0, .int 0, .null, .null, .null, .int 0, .null, .null, .null]))]) : Met l yX2_init (mw yX2_init cX2_init 1 none) (rm_X2_init) (RPZ D cI cB aS sz [(h0, .inr (2, [.null, .int 0, .int 0, .int 0, .null, .null, .null, .int 0, .null, .null, .null]))] [.ref h0]) (cqv D sz [(h0, .inr (2, [.null, .int 0, .int 0, .int 0, .null, .null, .null, .int 0, .null, .null, .null]))] (fun (u : Nat → Nat) => XW cI u 0 0 0 (nI 0) 0 0 0 (nI 0) 0 0 0 (nI 0) (fun _ => nI 0) (fun _ => nI 0) (fun _ => nI 0) (fun _ => nI 0) (fun _ => nI 0) (fun _ => nI 0) (fun _ => nI 0) (fun _ => nI 0) (fun _ => nI 0) (fun _ => nI 0) (fun _ => nI 0) (fun _ => nI 0) (fun _ => nI 0) (fun _ => nI 0) (fun _ => nI 0) (fun _ => nI 0) (fun _ => nI 0) (fun _ => nI 0) (fun _ => nI 0)) (fun (u : Nat → Nat) => u 0 = h0)) 40 575 (va_A [(h0, .inr (2, [.null, .int 0, .int 0, .int 0, .null, .null, .null, .int 0, .null, .null, .null]))] sz) := by
  refine met_ofC (by decide) (Nat.le_of_ble_eq_true rfl) ?_
  intro p e s m below meth c ls hx hb hr hml hown hg hlocks hin hK hsz hP hl
  have hown : s.vm.findClass RX2 = some m.cls := hown
  have hin : meth.name = "<init>" := hin rfl
  subst hsz
  have hD := hD0.self (sz := s.heap.size)
  generalize hAe : va_A [(h0, .inr (2, [.null, .int 0, .int 0, .int 0, .null, .null, .null, .int 0, .null, .null, .null]))] s.heap.size = A at hD ⊢
  have hA : ∀ q : Nat, s.heap.size ≤ q → A q := fun q h => by rw [← hAe]; exact Or.inr h
  have hS : va_S A s.heap s.heap [] := va_S.rf
  have hl : lv_has ls 1 [(0, .ref h0)] := hl
  have hP : va_P D vwCl [(h0, .inr (2, [.null, .int 0, .int 0, .int 0, .null, .null, .null, .int 0, .null, .null, .null]))] s.heap := hP
  refine lv_aload_n hx hb dX2_init_0 rfl (lv_at hl 0 rfl) ?_
  refine W.objInit hx hb hown (hg _ gm_15) (hg _ gm_16) (hg _ gm_17) rfl (by rw [hml]; exact hl.1) rfl dX2_init_1 (Nat.le_of_ble_eq_true rfl) (Nat.le_of_ble_eq_true rfl) ?_
  refine W.eq (g2 := F0 m 4 ls []) rfl ?_
  refine lv_aload_n hx hb dX2_init_4 rfl (lv_at hl 0 rfl) ?_
  refine va_new (ci := 1) (fs := [.null]) (C := RX1) (T := TX1) (N := 1) hx hb hg us_X1 tyX1 tyX1_ok hown (hg _ gm_18) (hg _ gm_19) (hg _ gm_3) hK.1 hP hD hS hA rfl (fun j hj => by rcases (show j = 0 by omega) with rfl <;> rfl) (Nat.le_of_ble_eq_true rfl) (Nat.le_of_ble_eq_true rfl) dX2_init_5 (fun q1 H hP hD hS => ?_)
  have hP : va_P D vwCl [(h0, .inr (2, [.null, .int 0, .int 0, .int 0, .null, .null, .null, .int 0, .null, .null, .null])), (q1, .inr (1, [.null]))] H := hP
  have hD : va_D A [(h0, .inr (2, [.null, .int 0, .int 0, .int 0, .null, .null, .null, .int 0, .null, .null, .null])), (q1, .inr (1, [.null]))] := hD
  refine W.widen (k := 1) (n := 1) (by omega) (by omega) ?_
  refine lv_dup hx hb dX2_init_8 rfl ?_
  refine lv_bipush (v := nI 19) hx hb dX2_init_9 (by decide) ?_
  have hPc := hP.sub (ws' := [(q1, .inr (1, [.null]))]) [1] rfl
  have hDc := hD.sub (ws' := [(q1, .inr (1, [.null]))]) [1] (by decide) rfl
  have hFc := va_free (wc := [(q1, .inr (1, [.null]))]) hD hS hA [1] rfl
  refine va_callv (va_runI (As := [.int (nI 19)]) (rest := [.ref q1, .ref h0]) ⟨hx, hb, hml, hown, hg⟩ (c_X1_init l D cI cB aS q1 H.size 19 (by decide) (hDc.weaken (fun _ _ _ _ => trivial))) (cwI_of hg gm_20 if_X1_init rfl rfl ⟨Nat.le_of_ble_eq_true rfl, Nat.le_of_ble_eq_true rfl⟩) (RPZ.pre hK hPc) rfl rfl hl.1 rfl (lv_room (Nat.le_of_ble_eq_true rfl)) dX2_init_11 ⟨Nat.le_of_ble_eq_true rfl, Nat.le_of_ble_eq_true rfl⟩) hS (fun q _ h => hFc q h) hFc (fun u2 t H1 locs ht hvm hw hB hz1 hk1 hS => ?_)
  obtain ⟨hP1, hD1⟩ := hB
  rw [ht] at hP1
  obtain ⟨hP, hD⟩ := va_join (wr := [(h0, .inr (2, [.null, .int 0, .int 0, .int 0, .null, .null, .null, .int 0, .null, .null, .null]))]) (w1 := [(q1, .inr (1, [.ref u2])), (u2, .inl (cI, 19, .inl (fun _ => nI 0)))]) hP hD [1] [0] rfl rfl (by decide) (by decide) hk1 hFc hP1 hD1
  clear hP1 hD1 hk1 hFc hPc hDc
  generalize H1 = H at hP hS ⊢
  have hP : va_P D vwCl [(h0, .inr (2, [.null, .int 0, .int 0, .int 0, .null, .null, .null, .int 0, .null, .null, .null])), (q1, .inr (1, [.ref u2])), (u2, .inl (cI, 19, .inl (fun _ => nI 0)))] H := hP
  have hD : va_D A [(h0, .inr (2, [.null, .int 0, .int 0, .int 0, .null, .null, .null, .int 0, .null, .null, .null])), (q1, .inr (1, [.ref u2])), (u2, .inl (cI, 19, .inl (fun _ => nI 0)))] := hD
  refine W.widen (k := 2) (n := 20) (by omega) (by omega) ?_
  refine va_putF (D := D) (ci := 2) (v := .ref q1) (ty := .object "BirthStreet$Row") (C := RX2) (T := TX2) (N := 11) hx hb hg us_X2 tyX2 tyX2_ok nmX2 hown hK.1 hP hD hS 0 rfl rfl 0 (by decide) (hg _ gm_66) (fun _ h9 => h9) rfl hin rfl (by decide +kernel) rfl rfl (Nat.le_of_ble_eq_true rfl) dX2_init_14 (fun H locs hP hD hS => ?_)
  have hP : va_P D vwCl [(h0, .inr (2, [.ref q1, .int 0, .int 0, .int 0, .null, .null, .null, .int 0, .null, .null, .null])), (q1, .inr (1, [.ref u2])), (u2, .inl (cI, 19, .inl (fun _ => nI 0)))] H := hP
  have hD : va_D A [(h0, .inr (2, [.ref q1, .int 0, .int 0, .int 0, .null, .null, .null, .int 0, .null, .null, .null])), (q1, .inr (1, [.ref u2])), (u2, .inl (cI, 19, .inl (fun _ => nI 0)))] := hD
  refine lv_aload_n hx hb dX2_init_17 rfl (lv_at hl 0 rfl) ?_
  refine lv_iconst (v := nI 0) hx hb dX2_init_18 (by decide) ?_
  refine va_put (D := D) (ci := 2) (v := .int (nI 0)) (ty := .int) (C := RX2) (T := TX2) (N := 11) hx hb hg us_X2 tyX2 tyX2_ok nmX2 hown hK.1 hP hD hS 0 rfl rfl 1 (by decide) (hg _ gm_67) (fun _ h9 => h9) rfl (by decide +kernel) rfl rfl (Nat.le_of_ble_eq_true rfl) dX2_init_19 (fun H locs hP hD hS => ?_)
  have hP : va_P D vwCl [(h0, .inr (2, [.ref q1, .int (nI 0), .int 0, .int 0, .null, .null, .null, .int 0, .null, .null, .null])), (q1, .inr (1, [.ref u2])), (u2, .inl (cI, 19, .inl (fun _ => nI 0)))] H := hP
  have hD : va_D A [(h0, .inr (2, [.ref q1, .int (nI 0), .int 0, .int 0, .null, .null, .null, .int 0, .null, .null, .null])), (q1, .inr (1, [.ref u2])), (u2, .inl (cI, 19, .inl (fun _ => nI 0)))] := hD
  refine lv_aload_n hx hb dX2_init_22 rfl (lv_at hl 0 rfl) ?_
  refine lv_iconst (v := nI 0) hx hb dX2_init_23 (by decide) ?_
  refine va_put (D := D) (ci := 2) (v := .int (nI 0)) (ty := .int) (C := RX2) (T := TX2) (N := 11) hx hb hg us_X2 tyX2 tyX2_ok nmX2 hown hK.1 hP hD hS 0 rfl rfl 2 (by decide) (hg _ gm_68) (fun _ h9 => h9) rfl (by decide +kernel) rfl rfl (Nat.le_of_ble_eq_true rfl) dX2_init_24 (fun H locs hP hD hS => ?_)
  have hP : va_P D vwCl [(h0, .inr (2, [.ref q1, .int (nI 0), .int (nI 0), .int 0, .null, .null, .null, .int 0, .null, .null, .null])), (q1, .inr (1, [.ref u2])), (u2, .inl (cI, 19, .inl (fun _ => nI 0)))] H := hP
  have hD : va_D A [(h0, .inr (2, [.ref q1, .int (nI 0), .int (nI 0), .int 0, .null, .null, .null, .int 0, .null, .null, .null])), (q1, .inr (1, [.ref u2])), (u2, .inl (cI, 19, .inl (fun _ => nI 0)))] := hD
  refine lv_aload_n hx hb dX2_init_27 rfl (lv_at hl 0 rfl) ?_
  refine lv_iconst (v := nI 0) hx hb dX2_init_28 (by decide) ?_
  refine va_put (D := D) (ci := 2) (v := .int (nI 0)) (ty := .int) (C := RX2) (T := TX2) (N := 11) hx hb hg us_X2 tyX2 tyX2_ok nmX2 hown hK.1 hP hD hS 0 rfl rfl 3 (by decide) (hg _ gm_69) (fun _ h9 => h9) rfl (by decide +kernel) rfl rfl (Nat.le_of_ble_eq_true rfl) dX2_init_29 (fun H locs hP hD hS => ?_)
  have hP : va_P D vwCl [(h0, .inr (2, [.ref q1, .int (nI 0), .int (nI 0), .int (nI 0), .null, .null, .null, .int 0, .null, .null, .null])), (q1, .inr (1, [.ref u2])), (u2, .inl (cI, 19, .inl (fun _ => nI 0)))] H := hP
  have hD : va_D A [(h0, .inr (2, [.ref q1, .int (nI 0), .int (nI 0), .int (nI 0), .null, .null, .null, .int 0, .null, .null, .null])), (q1, .inr (1, [.ref u2])), (u2, .inl (cI, 19, .inl (fun _ => nI 0)))] := hD
  refine lv_aload_n hx hb dX2_init_32 rfl (lv_at hl 0 rfl) ?_
  refine va_new (ci := 1) (fs := [.null]) (C := RX1) (T := TX1) (N := 1) hx hb hg us_X1 tyX1 tyX1_ok hown (hg _ gm_18) (hg _ gm_19) (hg _ gm_3) hK.1 hP hD hS hA rfl (fun j hj => by rcases (show j = 0 by omega) with rfl <;> rfl) (Nat.le_of_ble_eq_true rfl) (Nat.le_of_ble_eq_true rfl) dX2_init_33 (fun q3 H hP hD hS => ?_)
  have hP : va_P D vwCl [(h0, .inr (2, [.ref q1, .int (nI 0), .int (nI 0), .int (nI 0), .null, .null, .null, .int 0, .null, .null, .null])), (q1, .inr (1, [.ref u2])), (u2, .inl (cI, 19, .inl (fun _ => nI 0))), (q3, .inr (1, [.null]))] H := hP
  have hD : va_D A [(h0, .inr (2, [.ref q1, .int (nI 0), .int (nI 0), .int (nI 0), .null, .null, .null, .int 0, .null, .null, .null])), (q1, .inr (1, [.ref u2])), (u2, .inl (cI, 19, .inl (fun _ => nI 0))), (q3, .inr (1, [.null]))] := hD
  refine W.widen (k := 3) (n := 21) (by omega) (by omega) ?_
  refine lv_dup hx hb dX2_init_36 rfl ?_
  refine lv_bipush (v := nI 6) hx hb dX2_init_37 (by decide) ?_
  have hPc := hP.sub (ws' := [(q3, .inr (1, [.null]))]) [3] rfl
  have hDc := hD.sub (ws' := [(q3, .inr (1, [.null]))]) [3] (by decide) rfl
  have hFc := va_free (wc := [(q3, .inr (1, [.null]))]) hD hS hA [3] rfl
  refine va_callv (va_runI (As := [.int (nI 6)]) (rest := [.ref q3, .ref h0]) ⟨hx, hb, hml, hown, hg⟩ (c_X1_init l D cI cB aS q3 H.size 6 (by decide) (hDc.weaken (fun _ _ _ _ => trivial))) (cwI_of hg gm_20 if_X1_init rfl rfl ⟨Nat.le_of_ble_eq_true rfl, Nat.le_of_ble_eq_true rfl⟩) (RPZ.pre hK hPc) rfl rfl hl.1 rfl (lv_room (Nat.le_of_ble_eq_true rfl)) dX2_init_39 ⟨Nat.le_of_ble_eq_true rfl, Nat.le_of_ble_eq_true rfl⟩) hS (fun q _ h => hFc q h) hFc (fun u4 t H1 locs ht hvm hw hB hz1 hk1 hS => ?_)
  obtain ⟨hP1, hD1⟩ := hB
  rw [ht] at hP1
  obtain ⟨hP, hD⟩ := va_join (wr := [(h0, .inr (2, [.ref q1, .int (nI 0), .int (nI 0), .int (nI 0), .null, .null, .null, .int 0, .null, .null, .null])), (q1, .inr (1, [.ref u2])), (u2, .inl (cI, 19, .inl (fun _ => nI 0)))]) (w1 := [(q3, .inr (1, [.ref u4])), (u4, .inl (cI, 6, .inl (fun _ => nI 0)))]) hP hD [3] [0, 1, 2] rfl rfl (by decide) (by decide) hk1 hFc hP1 hD1
  clear hP1 hD1 hk1 hFc hPc hDc
  generalize H1 = H at hP hS ⊢
  have hP : va_P D vwCl [(h0, .inr (2, [.ref q1, .int (nI 0), .int (nI 0), .int (nI 0), .null, .null, .null, .int 0, .null, .null, .null])), (q1, .inr (1, [.ref u2])), (u2, .inl (cI, 19, .inl (fun _ => nI 0))), (q3, .inr (1, [.ref u4])), (u4, .inl (cI, 6, .inl (fun _ => nI 0)))] H := hP
  have hD : va_D A [(h0, .inr (2, [.ref q1, .int (nI 0), .int (nI 0), .int (nI 0), .null, .null, .null, .int 0, .null, .null, .null])), (q1, .inr (1, [.ref u2])), (u2, .inl (cI, 19, .inl (fun _ => nI 0))), (q3, .inr (1, [.ref u4])), (u4, .inl (cI, 6, .inl (fun _ => nI 0)))] := hD
  refine W.widen (k := 4) (n := 27) (by omega) (by omega) ?_
  refine va_putF (D := D) (ci := 2) (v := .ref q3) (ty := .object "BirthStreet$Row") (C := RX2) (T := TX2) (N := 11) hx hb hg us_X2 tyX2 tyX2_ok nmX2 hown hK.1 hP hD hS 0 rfl rfl 4 (by decide) (hg _ gm_70) (fun _ h9 => h9) rfl hin rfl (by decide +kernel) rfl rfl (Nat.le_of_ble_eq_true rfl) dX2_init_42 (fun H locs hP hD hS => ?_)
  have hP : va_P D vwCl [(h0, .inr (2, [.ref q1, .int (nI 0), .int (nI 0), .int (nI 0), .ref q3, .null, .null, .int 0, .null, .null, .null])), (q1, .inr (1, [.ref u2])), (u2, .inl (cI, 19, .inl (fun _ => nI 0))), (q3, .inr (1, [.ref u4])), (u4, .inl (cI, 6, .inl (fun _ => nI 0)))] H := hP
  have hD : va_D A [(h0, .inr (2, [.ref q1, .int (nI 0), .int (nI 0), .int (nI 0), .ref q3, .null, .null, .int 0, .null, .null, .null])), (q1, .inr (1, [.ref u2])), (u2, .inl (cI, 19, .inl (fun _ => nI 0))), (q3, .inr (1, [.ref u4])), (u4, .inl (cI, 6, .inl (fun _ => nI 0)))] := hD
  refine lv_aload_n hx hb dX2_init_45 rfl (lv_at hl 0 rfl) ?_
  refine va_new (ci := 0) (fs := [.int 0, .int 0, .int 0, .int 0, .null, .null, .null, .null, .null, .null, .null]) (C := RX0) (T := TX0) (N := 11) hx hb hg us_X0 tyX0 tyX0_ok hown (hg _ gm_27) (hg _ gm_28) (hg _ gm_4) hK.1 hP hD hS hA rfl (fun j hj => by rcases (show j = 0 ∨ j = 1 ∨ j = 2 ∨ j = 3 ∨ j = 4 ∨ j = 5 ∨ j = 6 ∨ j = 7 ∨ j = 8 ∨ j = 9 ∨ j = 10 by omega) with rfl | rfl | rfl | rfl | rfl | rfl | rfl | rfl | rfl | rfl | rfl <;> rfl) (Nat.le_of_ble_eq_true rfl) (Nat.le_of_ble_eq_true rfl) dX2_init_46 (fun q5 H hP hD hS => ?_)
  have hP : va_P D vwCl [(h0, .inr (2, [.ref q1, .int (nI 0), .int (nI 0), .int (nI 0), .ref q3, .null, .null, .int 0, .null, .null, .null])), (q1, .inr (1, [.ref u2])), (u2, .inl (cI, 19, .inl (fun _ => nI 0))), (q3, .inr (1, [.ref u4])), (u4, .inl (cI, 6, .inl (fun _ => nI 0))), (q5, .inr (0, [.int 0, .int 0, .int 0, .int 0, .null, .null, .null, .null, .null, .null, .null]))] H := hP
  have hD : va_D A [(h0, .inr (2, [.ref q1, .int (nI 0), .int (nI 0), .int (nI 0), .ref q3, .null, .null, .int 0, .null, .null, .null])), (q1, .inr (1, [.ref u2])), (u2, .inl (cI, 19, .inl (fun _ => nI 0))), (q3, .inr (1, [.ref u4])), (u4, .inl (cI, 6, .inl (fun _ => nI 0))), (q5, .inr (0, [.int 0, .int 0, .int 0, .int 0, .null, .null, .null, .null, .null, .null, .null]))] := hD
  refine W.widen (k := 5) (n := 38) (by omega) (by omega) ?_
  refine lv_dup hx hb dX2_init_49 rfl ?_
  have hPc := hP.sub (ws' := [(q5, .inr (0, [.int 0, .int 0, .int 0, .int 0, .null, .null, .null, .null, .null, .null, .null]))]) [5] rfl
  have hDc := hD.sub (ws' := [(q5, .inr (0, [.int 0, .int 0, .int 0, .int 0, .null, .null, .null, .null, .null, .null, .null]))]) [5] (by decide) rfl
  have hFc := va_free (wc := [(q5, .inr (0, [.int 0, .int 0, .int 0, .int 0, .null, .null, .null, .null, .null, .null, .null]))]) hD hS hA [5] rfl
  refine va_callv (va_runIN (As := []) (rest := [.ref q5, .ref h0]) ⟨hx, hb, hml, hown, hg⟩ (c_X0_init l D cI cB aS q5 H.size (hDc.weaken (fun _ _ _ _ => trivial))) (cwIN_of hg hK.2.2.1 if_X0_init rfl rfl ⟨Nat.le_of_ble_eq_true rfl, Nat.le_of_ble_eq_true rfl⟩) (RPZ.pre hK hPc) rfl rfl hl.1 rfl (lv_room (Nat.le_of_ble_eq_true rfl)) dX2_init_50 ⟨Nat.le_of_ble_eq_true rfl, Nat.le_of_ble_eq_true rfl⟩) hS (fun q _ h => hFc q h) hFc (fun u6 t H1 locs ht hvm hw hB hz1 hk1 hS => ?_)
  obtain ⟨hP1, hD1⟩ := hB
  rw [ht] at hP1
  have hw : u6 0 = q5 := hw
  obtain ⟨hP, hD⟩ := va_join (wr := [(h0, .inr (2, [.ref q1, .int (nI 0), .int (nI 0), .int (nI 0), .ref q3, .null, .null, .int 0, .null, .null, .null])), (q1, .inr (1, [.ref u2])), (u2, .inl (cI, 19, .inl (fun _ => nI 0))), (q3, .inr (1, [.ref u4])), (u4, .inl (cI, 6, .inl (fun _ => nI 0)))]) (w1 := [((u6 0), .inr (0, [.int (nI 0), .int (nI 0), .int (nI 0), .int (nI 0), .ref (u6 1), .ref (u6 2), .ref (u6 3), .ref (u6 4), .ref (u6 5), .ref (u6 6), .ref (u6 7)])), ((u6 1), .inr (1, [.ref (u6 8)])), ((u6 2), .inr (1, [.ref (u6 9)])), ((u6 3), .inr (1, [.ref (u6 10)])), ((u6 4), .inr (1, [.ref (u6 11)])), ((u6 5), .inr (1, [.ref (u6 12)])), ((u6 6), .inr (1, [.ref (u6 13)])), ((u6 7), .inr (1, [.ref (u6 14)])), ((u6 8), .inl (cI, 6, .inl (fun _ => nI 0))), ((u6 9), .inl (cI, 180, .inl (fun _ => nI 0))), ((u6 10), .inl (cI, 6, .inl (fun _ => nI 0))), ((u6 11), .inl (cI, 6, .inl (fun _ => nI 0))), ((u6 12), .inl (cI, 6, .inl (fun _ => nI 0))), ((u6 13), .inl (cI, 6, .inl (fun _ => nI 0))), ((u6 14), .inl (cI, 6, .inl (fun _ => nI 0)))]) hP hD [5] [0, 1, 2, 3, 4] rfl rfl (by decide) (by decide) hk1 hFc hP1 hD1
  clear hP1 hD1 hk1 hFc hPc hDc
  generalize H1 = H at hP hS ⊢
  have hP : va_P D vwCl [(h0, .inr (2, [.ref q1, .int (nI 0), .int (nI 0), .int (nI 0), .ref q3, .null, .null, .int 0, .null, .null, .null])), (q1, .inr (1, [.ref u2])), (u2, .inl (cI, 19, .inl (fun _ => nI 0))), (q3, .inr (1, [.ref u4])), (u4, .inl (cI, 6, .inl (fun _ => nI 0))), ((u6 0), .inr (0, [.int (nI 0), .int (nI 0), .int (nI 0), .int (nI 0), .ref (u6 1), .ref (u6 2), .ref (u6 3), .ref (u6 4), .ref (u6 5), .ref (u6 6), .ref (u6 7)])), ((u6 1), .inr (1, [.ref (u6 8)])), ((u6 2), .inr (1, [.ref (u6 9)])), ((u6 3), .inr (1, [.ref (u6 10)])), ((u6 4), .inr (1, [.ref (u6 11)])), ((u6 5), .inr (1, [.ref (u6 12)])), ((u6 6), .inr (1, [.ref (u6 13)])), ((u6 7), .inr (1, [.ref (u6 14)])), ((u6 8), .inl (cI, 6, .inl (fun _ => nI 0))), ((u6 9), .inl (cI, 180, .inl (fun _ => nI 0))), ((u6 10), .inl (cI, 6, .inl (fun _ => nI 0))), ((u6 11), .inl (cI, 6, .inl (fun _ => nI 0))), ((u6 12), .inl (cI, 6, .inl (fun _ => nI 0))), ((u6 13), .inl (cI, 6, .inl (fun _ => nI 0))), ((u6 14), .inl (cI, 6, .inl (fun _ => nI 0)))] H := hP
  have hD : va_D A [(h0, .inr (2, [.ref q1, .int (nI 0), .int (nI 0), .int (nI 0), .ref q3, .null, .null, .int 0, .null, .null, .null])), (q1, .inr (1, [.ref u2])), (u2, .inl (cI, 19, .inl (fun _ => nI 0))), (q3, .inr (1, [.ref u4])), (u4, .inl (cI, 6, .inl (fun _ => nI 0))), ((u6 0), .inr (0, [.int (nI 0), .int (nI 0), .int (nI 0), .int (nI 0), .ref (u6 1), .ref (u6 2), .ref (u6 3), .ref (u6 4), .ref (u6 5), .ref (u6 6), .ref (u6 7)])), ((u6 1), .inr (1, [.ref (u6 8)])), ((u6 2), .inr (1, [.ref (u6 9)])), ((u6 3), .inr (1, [.ref (u6 10)])), ((u6 4), .inr (1, [.ref (u6 11)])), ((u6 5), .inr (1, [.ref (u6 12)])), ((u6 6), .inr (1, [.ref (u6 13)])), ((u6 7), .inr (1, [.ref (u6 14)])), ((u6 8), .inl (cI, 6, .inl (fun _ => nI 0))), ((u6 9), .inl (cI, 180, .inl (fun _ => nI 0))), ((u6 10), .inl (cI, 6, .inl (fun _ => nI 0))), ((u6 11), .inl (cI, 6, .inl (fun _ => nI 0))), ((u6 12), .inl (cI, 6, .inl (fun _ => nI 0))), ((u6 13), .inl (cI, 6, .inl (fun _ => nI 0))), ((u6 14), .inl (cI, 6, .inl (fun _ => nI 0)))] := hD
  rw [← hw]
  refine W.widen (k := 19) (n := 261) (by omega) (by omega) ?_
  refine va_putF (D := D) (ci := 2) (v := .ref (u6 0)) (ty := .object "BirthStreet$Moment") (C := RX2) (T := TX2) (N := 11) hx hb hg us_X2 tyX2 tyX2_ok nmX2 hown hK.1 hP hD hS 0 rfl rfl 5 (by decide) (hg _ gm_71) (fun _ h9 => h9) rfl hin rfl (by decide +kernel) rfl rfl (Nat.le_of_ble_eq_true rfl) dX2_init_53 (fun H locs hP hD hS => ?_)
  have hP : va_P D vwCl [(h0, .inr (2, [.ref q1, .int (nI 0), .int (nI 0), .int (nI 0), .ref q3, .ref (u6 0), .null, .int 0, .null, .null, .null])), (q1, .inr (1, [.ref u2])), (u2, .inl (cI, 19, .inl (fun _ => nI 0))), (q3, .inr (1, [.ref u4])), (u4, .inl (cI, 6, .inl (fun _ => nI 0))), ((u6 0), .inr (0, [.int (nI 0), .int (nI 0), .int (nI 0), .int (nI 0), .ref (u6 1), .ref (u6 2), .ref (u6 3), .ref (u6 4), .ref (u6 5), .ref (u6 6), .ref (u6 7)])), ((u6 1), .inr (1, [.ref (u6 8)])), ((u6 2), .inr (1, [.ref (u6 9)])), ((u6 3), .inr (1, [.ref (u6 10)])), ((u6 4), .inr (1, [.ref (u6 11)])), ((u6 5), .inr (1, [.ref (u6 12)])), ((u6 6), .inr (1, [.ref (u6 13)])), ((u6 7), .inr (1, [.ref (u6 14)])), ((u6 8), .inl (cI, 6, .inl (fun _ => nI 0))), ((u6 9), .inl (cI, 180, .inl (fun _ => nI 0))), ((u6 10), .inl (cI, 6, .inl (fun _ => nI 0))), ((u6 11), .inl (cI, 6, .inl (fun _ => nI 0))), ((u6 12), .inl (cI, 6, .inl (fun _ => nI 0))), ((u6 13), .inl (cI, 6, .inl (fun _ => nI 0))), ((u6 14), .inl (cI, 6, .inl (fun _ => nI 0)))] H := hP
  have hD : va_D A [(h0, .inr (2, [.ref q1, .int (nI 0), .int (nI 0), .int (nI 0), .ref q3, .ref (u6 0), .null, .int 0, .null, .null, .null])), (q1, .inr (1, [.ref u2])), (u2, .inl (cI, 19, .inl (fun _ => nI 0))), (q3, .inr (1, [.ref u4])), (u4, .inl (cI, 6, .inl (fun _ => nI 0))), ((u6 0), .inr (0, [.int (nI 0), .int (nI 0), .int (nI 0), .int (nI 0), .ref (u6 1), .ref (u6 2), .ref (u6 3), .ref (u6 4), .ref (u6 5), .ref (u6 6), .ref (u6 7)])), ((u6 1), .inr (1, [.ref (u6 8)])), ((u6 2), .inr (1, [.ref (u6 9)])), ((u6 3), .inr (1, [.ref (u6 10)])), ((u6 4), .inr (1, [.ref (u6 11)])), ((u6 5), .inr (1, [.ref (u6 12)])), ((u6 6), .inr (1, [.ref (u6 13)])), ((u6 7), .inr (1, [.ref (u6 14)])), ((u6 8), .inl (cI, 6, .inl (fun _ => nI 0))), ((u6 9), .inl (cI, 180, .inl (fun _ => nI 0))), ((u6 10), .inl (cI, 6, .inl (fun _ => nI 0))), ((u6 11), .inl (cI, 6, .inl (fun _ => nI 0))), ((u6 12), .inl (cI, 6, .inl (fun _ => nI 0))), ((u6 13), .inl (cI, 6, .inl (fun _ => nI 0))), ((u6 14), .inl (cI, 6, .inl (fun _ => nI 0)))] := hD
  refine lv_aload_n hx hb dX2_init_56 rfl (lv_at hl 0 rfl) ?_
  refine va_new (ci := 0) (fs := [.int 0, .int 0, .int 0, .int 0, .null, .null, .null, .null, .null, .null, .null]) (C := RX0) (T := TX0) (N := 11) hx hb hg us_X0 tyX0 tyX0_ok hown (hg _ gm_27) (hg _ gm_28) (hg _ gm_4) hK.1 hP hD hS hA rfl (fun j hj => by rcases (show j = 0 ∨ j = 1 ∨ j = 2 ∨ j = 3 ∨ j = 4 ∨ j = 5 ∨ j = 6 ∨ j = 7 ∨ j = 8 ∨ j = 9 ∨ j = 10 by omega) with rfl | rfl | rfl | rfl | rfl | rfl | rfl | rfl | rfl | rfl | rfl <;> rfl) (Nat.le_of_ble_eq_true rfl) (Nat.le_of_ble_eq_true rfl) dX2_init_57 (fun q7 H hP hD hS => ?_)
  have hP : va_P D vwCl [(h0, .inr (2, [.ref q1, .int (nI 0), .int (nI 0), .int (nI 0), .ref q3, .ref (u6 0), .null, .int 0, .null, .null, .null])), (q1, .inr (1, [.ref u2])), (u2, .inl (cI, 19, .inl (fun _ => nI 0))), (q3, .inr (1, [.ref u4])), (u4, .inl (cI, 6, .inl (fun _ => nI 0))), ((u6 0), .inr (0, [.int (nI 0), .int (nI 0), .int (nI 0), .int (nI 0), .ref (u6 1), .ref (u6 2), .ref (u6 3), .ref (u6 4), .ref (u6 5), .ref (u6 6), .ref (u6 7)])), ((u6 1), .inr (1, [.ref (u6 8)])), ((u6 2), .inr (1, [.ref (u6 9)])), ((u6 3), .inr (1, [.ref (u6 10)])), ((u6 4), .inr (1, [.ref (u6 11)])), ((u6 5), .inr (1, [.ref (u6 12)])), ((u6 6), .inr (1, [.ref (u6 13)])), ((u6 7), .inr (1, [.ref (u6 14)])), ((u6 8), .inl (cI, 6, .inl (fun _ => nI 0))), ((u6 9), .inl (cI, 180, .inl (fun _ => nI 0))), ((u6 10), .inl (cI, 6, .inl (fun _ => nI 0))), ((u6 11), .inl (cI, 6, .inl (fun _ => nI 0))), ((u6 12), .inl (cI, 6, .inl (fun _ => nI 0))), ((u6 13), .inl (cI, 6, .inl (fun _ => nI 0))), ((u6 14), .inl (cI, 6, .inl (fun _ => nI 0))), (q7, .inr (0, [.int 0, .int 0, .int 0, .int 0, .null, .null, .null, .null, .null, .null, .null]))] H := hP
  have hD : va_D A [(h0, .inr (2, [.ref q1, .int (nI 0), .int (nI 0), .int (nI 0), .ref q3, .ref (u6 0), .null, .int 0, .null, .null, .null])), (q1, .inr (1, [.ref u2])), (u2, .inl (cI, 19, .inl (fun _ => nI 0))), (q3, .inr (1, [.ref u4])), (u4, .inl (cI, 6, .inl (fun _ => nI 0))), ((u6 0), .inr (0, [.int (nI 0), .int (nI 0), .int (nI 0), .int (nI 0), .ref (u6 1), .ref (u6 2), .ref (u6 3), .ref (u6 4), .ref (u6 5), .ref (u6 6), .ref (u6 7)])), ((u6 1), .inr (1, [.ref (u6 8)])), ((u6 2), .inr (1, [.ref (u6 9)])), ((u6 3), .inr (1, [.ref (u6 10)])), ((u6 4), .inr (1, [.ref (u6 11)])), ((u6 5), .inr (1, [.ref (u6 12)])), ((u6 6), .inr (1, [.ref (u6 13)])), ((u6 7), .inr (1, [.ref (u6 14)])), ((u6 8), .inl (cI, 6, .inl (fun _ => nI 0))), ((u6 9), .inl (cI, 180, .inl (fun _ => nI 0))), ((u6 10), .inl (cI, 6, .inl (fun _ => nI 0))), ((u6 11), .inl (cI, 6, .inl (fun _ => nI 0))), ((u6 12), .inl (cI, 6, .inl (fun _ => nI 0))), ((u6 13), .inl (cI, 6, .inl (fun _ => nI 0))), ((u6 14), .inl (cI, 6, .inl (fun _ => nI 0))), (q7, .inr (0, [.int 0, .int 0, .int 0, .int 0, .null, .null, .null, .null, .null, .null, .null]))] := hD
  refine W.widen (k := 20) (n := 272) (by omega) (by omega) ?_
  refine lv_dup hx hb dX2_init_60 rfl ?_
  have hPc := hP.sub (ws' := [(q7, .inr (0, [.int 0, .int 0, .int 0, .int 0, .null, .null, .null, .null, .null, .null, .null]))]) [20] rfl
  have hDc := hD.sub (ws' := [(q7, .inr (0, [.int 0, .int 0, .int 0, .int 0, .null, .null, .null, .null, .null, .null, .null]))]) [20] (by decide) rfl
  have hFc := va_free (wc := [(q7, .inr (0, [.int 0, .int 0, .int 0, .int 0, .null, .null, .null, .null, .null, .null, .null]))]) hD hS hA [20] rfl
  refine va_callv (va_runIN (As := []) (rest := [.ref q7, .ref h0]) ⟨hx, hb, hml, hown, hg⟩ (c_X0_init l D cI cB aS q7 H.size (hDc.weaken (fun _ _ _ _ => trivial))) (cwIN_of hg hK.2.2.1 if_X0_init rfl rfl ⟨Nat.le_of_ble_eq_true rfl, Nat.le_of_ble_eq_true rfl⟩) (RPZ.pre hK hPc) rfl rfl hl.1 rfl (lv_room (Nat.le_of_ble_eq_true rfl)) dX2_init_61 ⟨Nat.le_of_ble_eq_true rfl, Nat.le_of_ble_eq_true rfl⟩) hS (fun q _ h => hFc q h) hFc (fun u8 t H1 locs ht hvm hw hB hz1 hk1 hS => ?_)
  obtain ⟨hP1, hD1⟩ := hB
  rw [ht] at hP1
  have hw : u8 0 = q7 := hw
  obtain ⟨hP, hD⟩ := va_join (wr := [(h0, .inr (2, [.ref q1, .int (nI 0), .int (nI 0), .int (nI 0), .ref q3, .ref (u6 0), .null, .int 0, .null, .null, .null])), (q1, .inr (1, [.ref u2])), (u2, .inl (cI, 19, .inl (fun _ => nI 0))), (q3, .inr (1, [.ref u4])), (u4, .inl (cI, 6, .inl (fun _ => nI 0))), ((u6 0), .inr (0, [.int (nI 0), .int (nI 0), .int (nI 0), .int (nI 0), .ref (u6 1), .ref (u6 2), .ref (u6 3), .ref (u6 4), .ref (u6 5), .ref (u6 6), .ref (u6 7)])), ((u6 1), .inr (1, [.ref (u6 8)])), ((u6 2), .inr (1, [.ref (u6 9)])), ((u6 3), .inr (1, [.ref (u6 10)])), ((u6 4), .inr (1, [.ref (u6 11)])), ((u6 5), .inr (1, [.ref (u6 12)])), ((u6 6), .inr (1, [.ref (u6 13)])), ((u6 7), .inr (1, [.ref (u6 14)])), ((u6 8), .inl (cI, 6, .inl (fun _ => nI 0))), ((u6 9), .inl (cI, 180, .inl (fun _ => nI 0))), ((u6 10), .inl (cI, 6, .inl (fun _ => nI 0))), ((u6 11), .inl (cI, 6, .inl (fun _ => nI 0))), ((u6 12), .inl (cI, 6, .inl (fun _ => nI 0))), ((u6 13), .inl (cI, 6, .inl (fun _ => nI 0))), ((u6 14), .inl (cI, 6, .inl (fun _ => nI 0)))]) (w1 := [((u8 0), .inr (0, [.int (nI 0), .int (nI 0), .int (nI 0), .int (nI 0), .ref (u8 1), .ref (u8 2), .ref (u8 3), .ref (u8 4), .ref (u8 5), .ref (u8 6), .ref (u8 7)])), ((u8 1), .inr (1, [.ref (u8 8)])), ((u8 2), .inr (1, [.ref (u8 9)])), ((u8 3), .inr (1, [.ref (u8 10)])), ((u8 4), .inr (1, [.ref (u8 11)])), ((u8 5), .inr (1, [.ref (u8 12)])), ((u8 6), .inr (1, [.ref (u8 13)])), ((u8 7), .inr (1, [.ref (u8 14)])), ((u8 8), .inl (cI, 6, .inl (fun _ => nI 0))), ((u8 9), .inl (cI, 180, .inl (fun _ => nI 0))), ((u8 10), .inl (cI, 6, .inl (fun _ => nI 0))), ((u8 11), .inl (cI, 6, .inl (fun _ => nI 0))), ((u8 12), .inl (cI, 6, .inl (fun _ => nI 0))), ((u8 13), .inl (cI, 6, .inl (fun _ => nI 0))), ((u8 14), .inl (cI, 6, .inl (fun _ => nI 0)))]) hP hD [20] [0, 1, 2, 3, 4, 5, 6, 7, 8, 9, 10, 11, 12, 13, 14, 15, 16, 17, 18, 19] rfl rfl (by decide) (by decide) hk1 hFc hP1 hD1
  clear hP1 hD1 hk1 hFc hPc hDc
  generalize H1 = H at hP hS ⊢
  have hP : va_P D vwCl [(h0, .inr (2, [.ref q1, .int (nI 0), .int (nI 0), .int (nI 0), .ref q3, .ref (u6 0), .null, .int 0, .null, .null, .null])), (q1, .inr (1, [.ref u2])), (u2, .inl (cI, 19, .inl (fun _ => nI 0))), (q3, .inr (1, [.ref u4])), (u4, .inl (cI, 6, .inl (fun _ => nI 0))), ((u6 0), .inr (0, [.int (nI 0), .int (nI 0), .int (nI 0), .int (nI 0), .ref (u6 1), .ref (u6 2), .ref (u6 3), .ref (u6 4), .ref (u6 5), .ref (u6 6), .ref (u6 7)])), ((u6 1), .inr (1, [.ref (u6 8)])), ((u6 2), .inr (1, [.ref (u6 9)])), ((u6 3), .inr (1, [.ref (u6 10)])), ((u6 4), .inr (1, [.ref (u6 11)])), ((u6 5), .inr (1, [.ref (u6 12)])), ((u6 6), .inr (1, [.ref (u6 13)])), ((u6 7), .inr (1, [.ref (u6 14)])), ((u6 8), .inl (cI, 6, .inl (fun _ => nI 0))), ((u6 9), .inl (cI, 180, .inl (fun _ => nI 0))), ((u6 10), .inl (cI, 6, .inl (fun _ => nI 0))), ((u6 11), .inl (cI, 6, .inl (fun _ => nI 0))), ((u6 12), .inl (cI, 6, .inl (fun _ => nI 0))), ((u6 13), .inl (cI, 6, .inl (fun _ => nI 0))), ((u6 14), .inl (cI, 6, .inl (fun _ => nI 0))), ((u8 0), .inr (0, [.int (nI 0), .int (nI 0), .int (nI 0), .int (nI 0), .ref (u8 1), .ref (u8 2), .ref (u8 3), .ref (u8 4), .ref (u8 5), .ref (u8 6), .ref (u8 7)])), ((u8 1), .inr (1, [.ref (u8 8)])), ((u8 2), .inr (1, [.ref (u8 9)])), ((u8 3), .inr (1, [.ref (u8 10)])), ((u8 4), .inr (1, [.ref (u8 11)])), ((u8 5), .inr (1, [.ref (u8 12)])), ((u8 6), .inr (1, [.ref (u8 13)])), ((u8 7), .inr (1, [.ref (u8 14)])), ((u8 8), .inl (cI, 6, .inl (fun _ => nI 0))), ((u8 9), .inl (cI, 180, .inl (fun _ => nI 0))), ((u8 10), .inl (cI, 6, .inl (fun _ => nI 0))), ((u8 11), .inl (cI, 6, .inl (fun _ => nI 0))), ((u8 12), .inl (cI, 6, .inl (fun _ => nI 0))), ((u8 13), .inl (cI, 6, .inl (fun _ => nI 0))), ((u8 14), .inl (cI, 6, .inl (fun _ => nI 0)))] H := hP
  have hD : va_D A [(h0, .inr (2, [.ref q1, .int (nI 0), .int (nI 0), .int (nI 0), .ref q3, .ref (u6 0), .null, .int 0, .null, .null, .null])), (q1, .inr (1, [.ref u2])), (u2, .inl (cI, 19, .inl (fun _ => nI 0))), (q3, .inr (1, [.ref u4])), (u4, .inl (cI, 6, .inl (fun _ => nI 0))), ((u6 0), .inr (0, [.int (nI 0), .int (nI 0), .int (nI 0), .int (nI 0), .ref (u6 1), .ref (u6 2), .ref (u6 3), .ref (u6 4), .ref (u6 5), .ref (u6 6), .ref (u6 7)])), ((u6 1), .inr (1, [.ref (u6 8)])), ((u6 2), .inr (1, [.ref (u6 9)])), ((u6 3), .inr (1, [.ref (u6 10)])), ((u6 4), .inr (1, [.ref (u6 11)])), ((u6 5), .inr (1, [.ref (u6 12)])), ((u6 6), .inr (1, [.ref (u6 13)])), ((u6 7), .inr (1, [.ref (u6 14)])), ((u6 8), .inl (cI, 6, .inl (fun _ => nI 0))), ((u6 9), .inl (cI, 180, .inl (fun _ => nI 0))), ((u6 10), .inl (cI, 6, .inl (fun _ => nI 0))), ((u6 11), .inl (cI, 6, .inl (fun _ => nI 0))), ((u6 12), .inl (cI, 6, .inl (fun _ => nI 0))), ((u6 13), .inl (cI, 6, .inl (fun _ => nI 0))), ((u6 14), .inl (cI, 6, .inl (fun _ => nI 0))), ((u8 0), .inr (0, [.int (nI 0), .int (nI 0), .int (nI 0), .int (nI 0), .ref (u8 1), .ref (u8 2), .ref (u8 3), .ref (u8 4), .ref (u8 5), .ref (u8 6), .ref (u8 7)])), ((u8 1), .inr (1, [.ref (u8 8)])), ((u8 2), .inr (1, [.ref (u8 9)])), ((u8 3), .inr (1, [.ref (u8 10)])), ((u8 4), .inr (1, [.ref (u8 11)])), ((u8 5), .inr (1, [.ref (u8 12)])), ((u8 6), .inr (1, [.ref (u8 13)])), ((u8 7), .inr (1, [.ref (u8 14)])), ((u8 8), .inl (cI, 6, .inl (fun _ => nI 0))), ((u8 9), .inl (cI, 180, .inl (fun _ => nI 0))), ((u8 10), .inl (cI, 6, .inl (fun _ => nI 0))), ((u8 11), .inl (cI, 6, .inl (fun _ => nI 0))), ((u8 12), .inl (cI, 6, .inl (fun _ => nI 0))), ((u8 13), .inl (cI, 6, .inl (fun _ => nI 0))), ((u8 14), .inl (cI, 6, .inl (fun _ => nI 0)))] := hD
  rw [← hw]
  refine W.widen (k := 34) (n := 495) (by omega) (by omega) ?_
  refine va_putF (D := D) (ci := 2) (v := .ref (u8 0)) (ty := .object "BirthStreet$Moment") (C := RX2) (T := TX2) (N := 11) hx hb hg us_X2 tyX2 tyX2_ok nmX2 hown hK.1 hP hD hS 0 rfl rfl 6 (by decide) (hg _ gm_72) (fun _ h9 => h9) rfl hin rfl (by decide +kernel) rfl rfl (Nat.le_of_ble_eq_true rfl) dX2_init_64 (fun H locs hP hD hS => ?_)
  have hP : va_P D vwCl [(h0, .inr (2, [.ref q1, .int (nI 0), .int (nI 0), .int (nI 0), .ref q3, .ref (u6 0), .ref (u8 0), .int 0, .null, .null, .null])), (q1, .inr (1, [.ref u2])), (u2, .inl (cI, 19, .inl (fun _ => nI 0))), (q3, .inr (1, [.ref u4])), (u4, .inl (cI, 6, .inl (fun _ => nI 0))), ((u6 0), .inr (0, [.int (nI 0), .int (nI 0), .int (nI 0), .int (nI 0), .ref (u6 1), .ref (u6 2), .ref (u6 3), .ref (u6 4), .ref (u6 5), .ref (u6 6), .ref (u6 7)])), ((u6 1), .inr (1, [.ref (u6 8)])), ((u6 2), .inr (1, [.ref (u6 9)])), ((u6 3), .inr (1, [.ref (u6 10)])), ((u6 4), .inr (1, [.ref (u6 11)])), ((u6 5), .inr (1, [.ref (u6 12)])), ((u6 6), .inr (1, [.ref (u6 13)])), ((u6 7), .inr (1, [.ref (u6 14)])), ((u6 8), .inl (cI, 6, .inl (fun _ => nI 0))), ((u6 9), .inl (cI, 180, .inl (fun _ => nI 0))), ((u6 10), .inl (cI, 6, .inl (fun _ => nI 0))), ((u6 11), .inl (cI, 6, .inl (fun _ => nI 0))), ((u6 12), .inl (cI, 6, .inl (fun _ => nI 0))), ((u6 13), .inl (cI, 6, .inl (fun _ => nI 0))), ((u6 14), .inl (cI, 6, .inl (fun _ => nI 0))), ((u8 0), .inr (0, [.int (nI 0), .int (nI 0), .int (nI 0), .int (nI 0), .ref (u8 1), .ref (u8 2), .ref (u8 3), .ref (u8 4), .ref (u8 5), .ref (u8 6), .ref (u8 7)])), ((u8 1), .inr (1, [.ref (u8 8)])), ((u8 2), .inr (1, [.ref (u8 9)])), ((u8 3), .inr (1, [.ref (u8 10)])), ((u8 4), .inr (1, [.ref (u8 11)])), ((u8 5), .inr (1, [.ref (u8 12)])), ((u8 6), .inr (1, [.ref (u8 13)])), ((u8 7), .inr (1, [.ref (u8 14)])), ((u8 8), .inl (cI, 6, .inl (fun _ => nI 0))), ((u8 9), .inl (cI, 180, .inl (fun _ => nI 0))), ((u8 10), .inl (cI, 6, .inl (fun _ => nI 0))), ((u8 11), .inl (cI, 6, .inl (fun _ => nI 0))), ((u8 12), .inl (cI, 6, .inl (fun _ => nI 0))), ((u8 13), .inl (cI, 6, .inl (fun _ => nI 0))), ((u8 14), .inl (cI, 6, .inl (fun _ => nI 0)))] H := hP
  have hD : va_D A [(h0, .inr (2, [.ref q1, .int (nI 0), .int (nI 0), .int (nI 0), .ref q3, .ref (u6 0), .ref (u8 0), .int 0, .null, .null, .null])), (q1, .inr (1, [.ref u2])), (u2, .inl (cI, 19, .inl (fun _ => nI 0))), (q3, .inr (1, [.ref u4])), (u4, .inl (cI, 6, .inl (fun _ => nI 0))), ((u6 0), .inr (0, [.int (nI 0), .int (nI 0), .int (nI 0), .int (nI 0), .ref (u6 1), .ref (u6 2), .ref (u6 3), .ref (u6 4), .ref (u6 5), .ref (u6 6), .ref (u6 7)])), ((u6 1), .inr (1, [.ref (u6 8)])), ((u6 2), .inr (1, [.ref (u6 9)])), ((u6 3), .inr (1, [.ref (u6 10)])), ((u6 4), .inr (1, [.ref (u6 11)])), ((u6 5), .inr (1, [.ref (u6 12)])), ((u6 6), .inr (1, [.ref (u6 13)])), ((u6 7), .inr (1, [.ref (u6 14)])), ((u6 8), .inl (cI, 6, .inl (fun _ => nI 0))), ((u6 9), .inl (cI, 180, .inl (fun _ => nI 0))), ((u6 10), .inl (cI, 6, .inl (fun _ => nI 0))), ((u6 11), .inl (cI, 6, .inl (fun _ => nI 0))), ((u6 12), .inl (cI, 6, .inl (fun _ => nI 0))), ((u6 13), .inl (cI, 6, .inl (fun _ => nI 0))), ((u6 14), .inl (cI, 6, .inl (fun _ => nI 0))), ((u8 0), .inr (0, [.int (nI 0), .int (nI 0), .int (nI 0), .int (nI 0), .ref (u8 1), .ref (u8 2), .ref (u8 3), .ref (u8 4), .ref (u8 5), .ref (u8 6), .ref (u8 7)])), ((u8 1), .inr (1, [.ref (u8 8)])), ((u8 2), .inr (1, [.ref (u8 9)])), ((u8 3), .inr (1, [.ref (u8 10)])), ((u8 4), .inr (1, [.ref (u8 11)])), ((u8 5), .inr (1, [.ref (u8 12)])), ((u8 6), .inr (1, [.ref (u8 13)])), ((u8 7), .inr (1, [.ref (u8 14)])), ((u8 8), .inl (cI, 6, .inl (fun _ => nI 0))), ((u8 9), .inl (cI, 180, .inl (fun _ => nI 0))), ((u8 10), .inl (cI, 6, .inl (fun _ => nI 0))), ((u8 11), .inl (cI, 6, .inl (fun _ => nI 0))), ((u8 12), .inl (cI, 6, .inl (fun _ => nI 0))), ((u8 13), .inl (cI, 6, .inl (fun _ => nI 0))), ((u8 14), .inl (cI, 6, .inl (fun _ => nI 0)))] := hD
  refine lv_aload_n hx hb dX2_init_67 rfl (lv_at hl 0 rfl) ?_
  refine lv_iconst (v := nI 0) hx hb dX2_init_68 (by decide) ?_
  refine va_put (D := D) (ci := 2) (v := .int (nI 0)) (ty := .boolean) (C := RX2) (T := TX2) (N := 11) hx hb hg us_X2 tyX2 tyX2_ok nmX2 hown hK.1 hP hD hS 0 rfl rfl 7 (by decide) (hg _ gm_73) (fun _ h9 => h9) rfl (by decide +kernel) rfl rfl (Nat.le_of_ble_eq_true rfl) dX2_init_69 (fun H locs hP hD hS => ?_)
  have hP : va_P D vwCl [(h0, .inr (2, [.ref q1, .int (nI 0), .int (nI 0), .int (nI 0), .ref q3, .ref (u6 0), .ref (u8 0), .int (nI 0), .null, .null, .null])), (q1, .inr (1, [.ref u2])), (u2, .inl (cI, 19, .inl (fun _ => nI 0))), (q3, .inr (1, [.ref u4])), (u4, .inl (cI, 6, .inl (fun _ => nI 0))), ((u6 0), .inr (0, [.int (nI 0), .int (nI 0), .int (nI 0), .int (nI 0), .ref (u6 1), .ref (u6 2), .ref (u6 3), .ref (u6 4), .ref (u6 5), .ref (u6 6), .ref (u6 7)])), ((u6 1), .inr (1, [.ref (u6 8)])), ((u6 2), .inr (1, [.ref (u6 9)])), ((u6 3), .inr (1, [.ref (u6 10)])), ((u6 4), .inr (1, [.ref (u6 11)])), ((u6 5), .inr (1, [.ref (u6 12)])), ((u6 6), .inr (1, [.ref (u6 13)])), ((u6 7), .inr (1, [.ref (u6 14)])), ((u6 8), .inl (cI, 6, .inl (fun _ => nI 0))), ((u6 9), .inl (cI, 180, .inl (fun _ => nI 0))), ((u6 10), .inl (cI, 6, .inl (fun _ => nI 0))), ((u6 11), .inl (cI, 6, .inl (fun _ => nI 0))), ((u6 12), .inl (cI, 6, .inl (fun _ => nI 0))), ((u6 13), .inl (cI, 6, .inl (fun _ => nI 0))), ((u6 14), .inl (cI, 6, .inl (fun _ => nI 0))), ((u8 0), .inr (0, [.int (nI 0), .int (nI 0), .int (nI 0), .int (nI 0), .ref (u8 1), .ref (u8 2), .ref (u8 3), .ref (u8 4), .ref (u8 5), .ref (u8 6), .ref (u8 7)])), ((u8 1), .inr (1, [.ref (u8 8)])), ((u8 2), .inr (1, [.ref (u8 9)])), ((u8 3), .inr (1, [.ref (u8 10)])), ((u8 4), .inr (1, [.ref (u8 11)])), ((u8 5), .inr (1, [.ref (u8 12)])), ((u8 6), .inr (1, [.ref (u8 13)])), ((u8 7), .inr (1, [.ref (u8 14)])), ((u8 8), .inl (cI, 6, .inl (fun _ => nI 0))), ((u8 9), .inl (cI, 180, .inl (fun _ => nI 0))), ((u8 10), .inl (cI, 6, .inl (fun _ => nI 0))), ((u8 11), .inl (cI, 6, .inl (fun _ => nI 0))), ((u8 12), .inl (cI, 6, .inl (fun _ => nI 0))), ((u8 13), .inl (cI, 6, .inl (fun _ => nI 0))), ((u8 14), .inl (cI, 6, .inl (fun _ => nI 0)))] H := hP
  have hD : va_D A [(h0, .inr (2, [.ref q1, .int (nI 0), .int (nI 0), .int (nI 0), .ref q3, .ref (u6 0), .ref (u8 0), .int (nI 0), .null, .null, .null])), (q1, .inr (1, [.ref u2])), (u2, .inl (cI, 19, .inl (fun _ => nI 0))), (q3, .inr (1, [.ref u4])), (u4, .inl (cI, 6, .inl (fun _ => nI 0))), ((u6 0), .inr (0, [.int (nI 0), .int (nI 0), .int (nI 0), .int (nI 0), .ref (u6 1), .ref (u6 2), .ref (u6 3), .ref (u6 4), .ref (u6 5), .ref (u6 6), .ref (u6 7)])), ((u6 1), .inr (1, [.ref (u6 8)])), ((u6 2), .inr (1, [.ref (u6 9)])), ((u6 3), .inr (1, [.ref (u6 10)])), ((u6 4), .inr (1, [.ref (u6 11)])), ((u6 5), .inr (1, [.ref (u6 12)])), ((u6 6), .inr (1, [.ref (u6 13)])), ((u6 7), .inr (1, [.ref (u6 14)])), ((u6 8), .inl (cI, 6, .inl (fun _ => nI 0))), ((u6 9), .inl (cI, 180, .inl (fun _ => nI 0))), ((u6 10), .inl (cI, 6, .inl (fun _ => nI 0))), ((u6 11), .inl (cI, 6, .inl (fun _ => nI 0))), ((u6 12), .inl (cI, 6, .inl (fun _ => nI 0))), ((u6 13), .inl (cI, 6, .inl (fun _ => nI 0))), ((u6 14), .inl (cI, 6, .inl (fun _ => nI 0))), ((u8 0), .inr (0, [.int (nI 0), .int (nI 0), .int (nI 0), .int (nI 0), .ref (u8 1), .ref (u8 2), .ref (u8 3), .ref (u8 4), .ref (u8 5), .ref (u8 6), .ref (u8 7)])), ((u8 1), .inr (1, [.ref (u8 8)])), ((u8 2), .inr (1, [.ref (u8 9)])), ((u8 3), .inr (1, [.ref (u8 10)])), ((u8 4), .inr (1, [.ref (u8 11)])), ((u8 5), .inr (1, [.ref (u8 12)])), ((u8 6), .inr (1, [.ref (u8 13)])), ((u8 7), .inr (1, [.ref (u8 14)])), ((u8 8), .inl (cI, 6, .inl (fun _ => nI 0))), ((u8 9), .inl (cI, 180, .inl (fun _ => nI 0))), ((u8 10), .inl (cI, 6, .inl (fun _ => nI 0))), ((u8 11), .inl (cI, 6, .inl (fun _ => nI 0))), ((u8 12), .inl (cI, 6, .inl (fun _ => nI 0))), ((u8 13), .inl (cI, 6, .inl (fun _ => nI 0))), ((u8 14), .inl (cI, 6, .inl (fun _ => nI 0)))] := hD
  refine lv_aload_n hx hb dX2_init_72 rfl (lv_at hl 0 rfl) ?_
  refine va_new (ci := 1) (fs := [.null]) (C := RX1) (T := TX1) (N := 1) hx hb hg us_X1 tyX1 tyX1_ok hown (hg _ gm_18) (hg _ gm_19) (hg _ gm_3) hK.1 hP hD hS hA rfl (fun j hj => by rcases (show j = 0 by omega) with rfl <;> rfl) (Nat.le_of_ble_eq_true rfl) (Nat.le_of_ble_eq_true rfl) dX2_init_73 (fun q9 H hP hD hS => ?_)
  have hP : va_P D vwCl [(h0, .inr (2, [.ref q1, .int (nI 0), .int (nI 0), .int (nI 0), .ref q3, .ref (u6 0), .ref (u8 0), .int (nI 0), .null, .null, .null])), (q1, .inr (1, [.ref u2])), (u2, .inl (cI, 19, .inl (fun _ => nI 0))), (q3, .inr (1, [.ref u4])), (u4, .inl (cI, 6, .inl (fun _ => nI 0))), ((u6 0), .inr (0, [.int (nI 0), .int (nI 0), .int (nI 0), .int (nI 0), .ref (u6 1), .ref (u6 2), .ref (u6 3), .ref (u6 4), .ref (u6 5), .ref (u6 6), .ref (u6 7)])), ((u6 1), .inr (1, [.ref (u6 8)])), ((u6 2), .inr (1, [.ref (u6 9)])), ((u6 3), .inr (1, [.ref (u6 10)])), ((u6 4), .inr (1, [.ref (u6 11)])), ((u6 5), .inr (1, [.ref (u6 12)])), ((u6 6), .inr (1, [.ref (u6 13)])), ((u6 7), .inr (1, [.ref (u6 14)])), ((u6 8), .inl (cI, 6, .inl (fun _ => nI 0))), ((u6 9), .inl (cI, 180, .inl (fun _ => nI 0))), ((u6 10), .inl (cI, 6, .inl (fun _ => nI 0))), ((u6 11), .inl (cI, 6, .inl (fun _ => nI 0))), ((u6 12), .inl (cI, 6, .inl (fun _ => nI 0))), ((u6 13), .inl (cI, 6, .inl (fun _ => nI 0))), ((u6 14), .inl (cI, 6, .inl (fun _ => nI 0))), ((u8 0), .inr (0, [.int (nI 0), .int (nI 0), .int (nI 0), .int (nI 0), .ref (u8 1), .ref (u8 2), .ref (u8 3), .ref (u8 4), .ref (u8 5), .ref (u8 6), .ref (u8 7)])), ((u8 1), .inr (1, [.ref (u8 8)])), ((u8 2), .inr (1, [.ref (u8 9)])), ((u8 3), .inr (1, [.ref (u8 10)])), ((u8 4), .inr (1, [.ref (u8 11)])), ((u8 5), .inr (1, [.ref (u8 12)])), ((u8 6), .inr (1, [.ref (u8 13)])), ((u8 7), .inr (1, [.ref (u8 14)])), ((u8 8), .inl (cI, 6, .inl (fun _ => nI 0))), ((u8 9), .inl (cI, 180, .inl (fun _ => nI 0))), ((u8 10), .inl (cI, 6, .inl (fun _ => nI 0))), ((u8 11), .inl (cI, 6, .inl (fun _ => nI 0))), ((u8 12), .inl (cI, 6, .inl (fun _ => nI 0))), ((u8 13), .inl (cI, 6, .inl (fun _ => nI 0))), ((u8 14), .inl (cI, 6, .inl (fun _ => nI 0))), (q9, .inr (1, [.null]))] H := hP
  have hD : va_D A [(h0, .inr (2, [.ref q1, .int (nI 0), .int (nI 0), .int (nI 0), .ref q3, .ref (u6 0), .ref (u8 0), .int (nI 0), .null, .null, .null])), (q1, .inr (1, [.ref u2])), (u2, .inl (cI, 19, .inl (fun _ => nI 0))), (q3, .inr (1, [.ref u4])), (u4, .inl (cI, 6, .inl (fun _ => nI 0))), ((u6 0), .inr (0, [.int (nI 0), .int (nI 0), .int (nI 0), .int (nI 0), .ref (u6 1), .ref (u6 2), .ref (u6 3), .ref (u6 4), .ref (u6 5), .ref (u6 6), .ref (u6 7)])), ((u6 1), .inr (1, [.ref (u6 8)])), ((u6 2), .inr (1, [.ref (u6 9)])), ((u6 3), .inr (1, [.ref (u6 10)])), ((u6 4), .inr (1, [.ref (u6 11)])), ((u6 5), .inr (1, [.ref (u6 12)])), ((u6 6), .inr (1, [.ref (u6 13)])), ((u6 7), .inr (1, [.ref (u6 14)])), ((u6 8), .inl (cI, 6, .inl (fun _ => nI 0))), ((u6 9), .inl (cI, 180, .inl (fun _ => nI 0))), ((u6 10), .inl (cI, 6, .inl (fun _ => nI 0))), ((u6 11), .inl (cI, 6, .inl (fun _ => nI 0))), ((u6 12), .inl (cI, 6, .inl (fun _ => nI 0))), ((u6 13), .inl (cI, 6, .inl (fun _ => nI 0))), ((u6 14), .inl (cI, 6, .inl (fun _ => nI 0))), ((u8 0), .inr (0, [.int (nI 0), .int (nI 0), .int (nI 0), .int (nI 0), .ref (u8 1), .ref (u8 2), .ref (u8 3), .ref (u8 4), .ref (u8 5), .ref (u8 6), .ref (u8 7)])), ((u8 1), .inr (1, [.ref (u8 8)])), ((u8 2), .inr (1, [.ref (u8 9)])), ((u8 3), .inr (1, [.ref (u8 10)])), ((u8 4), .inr (1, [.ref (u8 11)])), ((u8 5), .inr (1, [.ref (u8 12)])), ((u8 6), .inr (1, [.ref (u8 13)])), ((u8 7), .inr (1, [.ref (u8 14)])), ((u8 8), .inl (cI, 6, .inl (fun _ => nI 0))), ((u8 9), .inl (cI, 180, .inl (fun _ => nI 0))), ((u8 10), .inl (cI, 6, .inl (fun _ => nI 0))), ((u8 11), .inl (cI, 6, .inl (fun _ => nI 0))), ((u8 12), .inl (cI, 6, .inl (fun _ => nI 0))), ((u8 13), .inl (cI, 6, .inl (fun _ => nI 0))), ((u8 14), .inl (cI, 6, .inl (fun _ => nI 0))), (q9, .inr (1, [.null]))] := hD
  refine W.widen (k := 35) (n := 496) (by omega) (by omega) ?_
  refine lv_dup hx hb dX2_init_76 rfl ?_
  refine lv_bipush (v := nI 6) hx hb dX2_init_77 (by decide) ?_
  have hPc := hP.sub (ws' := [(q9, .inr (1, [.null]))]) [35] rfl
  have hDc := hD.sub (ws' := [(q9, .inr (1, [.null]))]) [35] (by decide) rfl
  have hFc := va_free (wc := [(q9, .inr (1, [.null]))]) hD hS hA [35] rfl
  refine va_callv (va_runI (As := [.int (nI 6)]) (rest := [.ref q9, .ref h0]) ⟨hx, hb, hml, hown, hg⟩ (c_X1_init l D cI cB aS q9 H.size 6 (by decide) (hDc.weaken (fun _ _ _ _ => trivial))) (cwI_of hg gm_20 if_X1_init rfl rfl ⟨Nat.le_of_ble_eq_true rfl, Nat.le_of_ble_eq_true rfl⟩) (RPZ.pre hK hPc) rfl rfl hl.1 rfl (lv_room (Nat.le_of_ble_eq_true rfl)) dX2_init_79 ⟨Nat.le_of_ble_eq_true rfl, Nat.le_of_ble_eq_true rfl⟩) hS (fun q _ h => hFc q h) hFc (fun u10 t H1 locs ht hvm hw hB hz1 hk1 hS => ?_)
  obtain ⟨hP1, hD1⟩ := hB
  rw [ht] at hP1
  obtain ⟨hP, hD⟩ := va_join (wr := [(h0, .inr (2, [.ref q1, .int (nI 0), .int (nI 0), .int (nI 0), .ref q3, .ref (u6 0), .ref (u8 0), .int (nI 0), .null, .null, .null])), (q1, .inr (1, [.ref u2])), (u2, .inl (cI, 19, .inl (fun _ => nI 0))), (q3, .inr (1, [.ref u4])), (u4, .inl (cI, 6, .inl (fun _ => nI 0))), ((u6 0), .inr (0, [.int (nI 0), .int (nI 0), .int (nI 0), .int (nI 0), .ref (u6 1), .ref (u6 2), .ref (u6 3), .ref (u6 4), .ref (u6 5), .ref (u6 6), .ref (u6 7)])), ((u6 1), .inr (1, [.ref (u6 8)])), ((u6 2), .inr (1, [.ref (u6 9)])), ((u6 3), .inr (1, [.ref (u6 10)])), ((u6 4), .inr (1, [.ref (u6 11)])), ((u6 5), .inr (1, [.ref (u6 12)])), ((u6 6), .inr (1, [.ref (u6 13)])), ((u6 7), .inr (1, [.ref (u6 14)])), ((u6 8), .inl (cI, 6, .inl (fun _ => nI 0))), ((u6 9), .inl (cI, 180, .inl (fun _ => nI 0))), ((u6 10), .inl (cI, 6, .inl (fun _ => nI 0))), ((u6 11), .inl (cI, 6, .inl (fun _ => nI 0))), ((u6 12), .inl (cI, 6, .inl (fun _ => nI 0))), ((u6 13), .inl (cI, 6, .inl (fun _ => nI 0))), ((u6 14), .inl (cI, 6, .inl (fun _ => nI 0))), ((u8 0), .inr (0, [.int (nI 0), .int (nI 0), .int (nI 0), .int (nI 0), .ref (u8 1), .ref (u8 2), .ref (u8 3), .ref (u8 4), .ref (u8 5), .ref (u8 6), .ref (u8 7)])), ((u8 1), .inr (1, [.ref (u8 8)])), ((u8 2), .inr (1, [.ref (u8 9)])), ((u8 3), .inr (1, [.ref (u8 10)])), ((u8 4), .inr (1, [.ref (u8 11)])), ((u8 5), .inr (1, [.ref (u8 12)])), ((u8 6), .inr (1, [.ref (u8 13)])), ((u8 7), .inr (1, [.ref (u8 14)])), ((u8 8), .inl (cI, 6, .inl (fun _ => nI 0))), ((u8 9), .inl (cI, 180, .inl (fun _ => nI 0))), ((u8 10), .inl (cI, 6, .inl (fun _ => nI 0))), ((u8 11), .inl (cI, 6, .inl (fun _ => nI 0))), ((u8 12), .inl (cI, 6, .inl (fun _ => nI 0))), ((u8 13), .inl (cI, 6, .inl (fun _ => nI 0))), ((u8 14), .inl (cI, 6, .inl (fun _ => nI 0)))]) (w1 := [(q9, .inr (1, [.ref u10])), (u10, .inl (cI, 6, .inl (fun _ => nI 0)))]) hP hD [35] [0, 1, 2, 3, 4, 5, 6, 7, 8, 9, 10, 11, 12, 13, 14, 15, 16, 17, 18, 19, 20, 21, 22, 23, 24, 25, 26, 27, 28, 29, 30, 31, 32, 33, 34] rfl rfl (by decide) (by decide) hk1 hFc hP1 hD1
  clear hP1 hD1 hk1 hFc hPc hDc
  generalize H1 = H at hP hS ⊢
  have hP : va_P D vwCl [(h0, .inr (2, [.ref q1, .int (nI 0), .int (nI 0), .int (nI 0), .ref q3, .ref (u6 0), .ref (u8 0), .int (nI 0), .null, .null, .null])), (q1, .inr (1, [.ref u2])), (u2, .inl (cI, 19, .inl (fun _ => nI 0))), (q3, .inr (1, [.ref u4])), (u4, .inl (cI, 6, .inl (fun _ => nI 0))), ((u6 0), .inr (0, [.int (nI 0), .int (nI 0), .int (nI 0), .int (nI 0), .ref (u6 1), .ref (u6 2), .ref (u6 3), .ref (u6 4), .ref (u6 5), .ref (u6 6), .ref (u6 7)])), ((u6 1), .inr (1, [.ref (u6 8)])), ((u6 2), .inr (1, [.ref (u6 9)])), ((u6 3), .inr (1, [.ref (u6 10)])), ((u6 4), .inr (1, [.ref (u6 11)])), ((u6 5), .inr (1, [.ref (u6 12)])), ((u6 6), .inr (1, [.ref (u6 13)])), ((u6 7), .inr (1, [.ref (u6 14)])), ((u6 8), .inl (cI, 6, .inl (fun _ => nI 0))), ((u6 9), .inl (cI, 180, .inl (fun _ => nI 0))), ((u6 10), .inl (cI, 6, .inl (fun _ => nI 0))), ((u6 11), .inl (cI, 6, .inl (fun _ => nI 0))), ((u6 12), .inl (cI, 6, .inl (fun _ => nI 0))), ((u6 13), .inl (cI, 6, .inl (fun _ => nI 0))), ((u6 14), .inl (cI, 6, .inl (fun _ => nI 0))), ((u8 0), .inr (0, [.int (nI 0), .int (nI 0), .int (nI 0), .int (nI 0), .ref (u8 1), .ref (u8 2), .ref (u8 3), .ref (u8 4), .ref (u8 5), .ref (u8 6), .ref (u8 7)])), ((u8 1), .inr (1, [.ref (u8 8)])), ((u8 2), .inr (1, [.ref (u8 9)])), ((u8 3), .inr (1, [.ref (u8 10)])), ((u8 4), .inr (1, [.ref (u8 11)])), ((u8 5), .inr (1, [.ref (u8 12)])), ((u8 6), .inr (1, [.ref (u8 13)])), ((u8 7), .inr (1, [.ref (u8 14)])), ((u8 8), .inl (cI, 6, .inl (fun _ => nI 0))), ((u8 9), .inl (cI, 180, .inl (fun _ => nI 0))), ((u8 10), .inl (cI, 6, .inl (fun _ => nI 0))), ((u8 11), .inl (cI, 6, .inl (fun _ => nI 0))), ((u8 12), .inl (cI, 6, .inl (fun _ => nI 0))), ((u8 13), .inl (cI, 6, .inl (fun _ => nI 0))), ((u8 14), .inl (cI, 6, .inl (fun _ => nI 0))), (q9, .inr (1, [.ref u10])), (u10, .inl (cI, 6, .inl (fun _ => nI 0)))] H := hP
  have hD : va_D A [(h0, .inr (2, [.ref q1, .int (nI 0), .int (nI 0), .int (nI 0), .ref q3, .ref (u6 0), .ref (u8 0), .int (nI 0), .null, .null, .null])), (q1, .inr (1, [.ref u2])), (u2, .inl (cI, 19, .inl (fun _ => nI 0))), (q3, .inr (1, [.ref u4])), (u4, .inl (cI, 6, .inl (fun _ => nI 0))), ((u6 0), .inr (0, [.int (nI 0), .int (nI 0), .int (nI 0), .int (nI 0), .ref (u6 1), .ref (u6 2), .ref (u6 3), .ref (u6 4), .ref (u6 5), .ref (u6 6), .ref (u6 7)])), ((u6 1), .inr (1, [.ref (u6 8)])), ((u6 2), .inr (1, [.ref (u6 9)])), ((u6 3), .inr (1, [.ref (u6 10)])), ((u6 4), .inr (1, [.ref (u6 11)])), ((u6 5), .inr (1, [.ref (u6 12)])), ((u6 6), .inr (1, [.ref (u6 13)])), ((u6 7), .inr (1, [.ref (u6 14)])), ((u6 8), .inl (cI, 6, .inl (fun _ => nI 0))), ((u6 9), .inl (cI, 180, .inl (fun _ => nI 0))), ((u6 10), .inl (cI, 6, .inl (fun _ => nI 0))), ((u6 11), .inl (cI, 6, .inl (fun _ => nI 0))), ((u6 12), .inl (cI, 6, .inl (fun _ => nI 0))), ((u6 13), .inl (cI, 6, .inl (fun _ => nI 0))), ((u6 14), .inl (cI, 6, .inl (fun _ => nI 0))), ((u8 0), .inr (0, [.int (nI 0), .int (nI 0), .int (nI 0), .int (nI 0), .ref (u8 1), .ref (u8 2), .ref (u8 3), .ref (u8 4), .ref (u8 5), .ref (u8 6), .ref (u8 7)])), ((u8 1), .inr (1, [.ref (u8 8)])), ((u8 2), .inr (1, [.ref (u8 9)])), ((u8 3), .inr (1, [.ref (u8 10)])), ((u8 4), .inr (1, [.ref (u8 11)])), ((u8 5), .inr (1, [.ref (u8 12)])), ((u8 6), .inr (1, [.ref (u8 13)])), ((u8 7), .inr (1, [.ref (u8 14)])), ((u8 8), .inl (cI, 6, .inl (fun _ => nI 0))), ((u8 9), .inl (cI, 180, .inl (fun _ => nI 0))), ((u8 10), .inl (cI, 6, .inl (fun _ => nI 0))), ((u8 11), .inl (cI, 6, .inl (fun _ => nI 0))), ((u8 12), .inl (cI, 6, .inl (fun _ => nI 0))), ((u8 13), .inl (cI, 6, .inl (fun _ => nI 0))), ((u8 14), .inl (cI, 6, .inl (fun _ => nI 0))), (q9, .inr (1, [.ref u10])), (u10, .inl (cI, 6, .inl (fun _ => nI 0)))] := hD
  refine W.widen (k := 36) (n := 502) (by omega) (by omega) ?_
  refine va_putF (D := D) (ci := 2) (v := .ref q9) (ty := .object "BirthStreet$Row") (C := RX2) (T := TX2) (N := 11) hx hb hg us_X2 tyX2 tyX2_ok nmX2 hown hK.1 hP hD hS 0 rfl rfl 8 (by decide) (hg _ gm_74) (fun _ h9 => h9) rfl hin rfl (by decide +kernel) rfl rfl (Nat.le_of_ble_eq_true rfl) dX2_init_82 (fun H locs hP hD hS => ?_)
  have hP : va_P D vwCl [(h0, .inr (2, [.ref q1, .int (nI 0), .int (nI 0), .int (nI 0), .ref q3, .ref (u6 0), .ref (u8 0), .int (nI 0), .ref q9, .null, .null])), (q1, .inr (1, [.ref u2])), (u2, .inl (cI, 19, .inl (fun _ => nI 0))), (q3, .inr (1, [.ref u4])), (u4, .inl (cI, 6, .inl (fun _ => nI 0))), ((u6 0), .inr (0, [.int (nI 0), .int (nI 0), .int (nI 0), .int (nI 0), .ref (u6 1), .ref (u6 2), .ref (u6 3), .ref (u6 4), .ref (u6 5), .ref (u6 6), .ref (u6 7)])), ((u6 1), .inr (1, [.ref (u6 8)])), ((u6 2), .inr (1, [.ref (u6 9)])), ((u6 3), .inr (1, [.ref (u6 10)])), ((u6 4), .inr (1, [.ref (u6 11)])), ((u6 5), .inr (1, [.ref (u6 12)])), ((u6 6), .inr (1, [.ref (u6 13)])), ((u6 7), .inr (1, [.ref (u6 14)])), ((u6 8), .inl (cI, 6, .inl (fun _ => nI 0))), ((u6 9), .inl (cI, 180, .inl (fun _ => nI 0))), ((u6 10), .inl (cI, 6, .inl (fun _ => nI 0))), ((u6 11), .inl (cI, 6, .inl (fun _ => nI 0))), ((u6 12), .inl (cI, 6, .inl (fun _ => nI 0))), ((u6 13), .inl (cI, 6, .inl (fun _ => nI 0))), ((u6 14), .inl (cI, 6, .inl (fun _ => nI 0))), ((u8 0), .inr (0, [.int (nI 0), .int (nI 0), .int (nI 0), .int (nI 0), .ref (u8 1), .ref (u8 2), .ref (u8 3), .ref (u8 4), .ref (u8 5), .ref (u8 6), .ref (u8 7)])), ((u8 1), .inr (1, [.ref (u8 8)])), ((u8 2), .inr (1, [.ref (u8 9)])), ((u8 3), .inr (1, [.ref (u8 10)])), ((u8 4), .inr (1, [.ref (u8 11)])), ((u8 5), .inr (1, [.ref (u8 12)])), ((u8 6), .inr (1, [.ref (u8 13)])), ((u8 7), .inr (1, [.ref (u8 14)])), ((u8 8), .inl (cI, 6, .inl (fun _ => nI 0))), ((u8 9), .inl (cI, 180, .inl (fun _ => nI 0))), ((u8 10), .inl (cI, 6, .inl (fun _ => nI 0))), ((u8 11), .inl (cI, 6, .inl (fun _ => nI 0))), ((u8 12), .inl (cI, 6, .inl (fun _ => nI 0))), ((u8 13), .inl (cI, 6, .inl (fun _ => nI 0))), ((u8 14), .inl (cI, 6, .inl (fun _ => nI 0))), (q9, .inr (1, [.ref u10])), (u10, .inl (cI, 6, .inl (fun _ => nI 0)))] H := hP
  have hD : va_D A [(h0, .inr (2, [.ref q1, .int (nI 0), .int (nI 0), .int (nI 0), .ref q3, .ref (u6 0), .ref (u8 0), .int (nI 0), .ref q9, .null, .null])), (q1, .inr (1, [.ref u2])), (u2, .inl (cI, 19, .inl (fun _ => nI 0))), (q3, .inr (1, [.ref u4])), (u4, .inl (cI, 6, .inl (fun _ => nI 0))), ((u6 0), .inr (0, [.int (nI 0), .int (nI 0), .int (nI 0), .int (nI 0), .ref (u6 1), .ref (u6 2), .ref (u6 3), .ref (u6 4), .ref (u6 5), .ref (u6 6), .ref (u6 7)])), ((u6 1), .inr (1, [.ref (u6 8)])), ((u6 2), .inr (1, [.ref (u6 9)])), ((u6 3), .inr (1, [.ref (u6 10)])), ((u6 4), .inr (1, [.ref (u6 11)])), ((u6 5), .inr (1, [.ref (u6 12)])), ((u6 6), .inr (1, [.ref (u6 13)])), ((u6 7), .inr (1, [.ref (u6 14)])), ((u6 8), .inl (cI, 6, .inl (fun _ => nI 0))), ((u6 9), .inl (cI, 180, .inl (fun _ => nI 0))), ((u6 10), .inl (cI, 6, .inl (fun _ => nI 0))), ((u6 11), .inl (cI, 6, .inl (fun _ => nI 0))), ((u6 12), .inl (cI, 6, .inl (fun _ => nI 0))), ((u6 13), .inl (cI, 6, .inl (fun _ => nI 0))), ((u6 14), .inl (cI, 6, .inl (fun _ => nI 0))), ((u8 0), .inr (0, [.int (nI 0), .int (nI 0), .int (nI 0), .int (nI 0), .ref (u8 1), .ref (u8 2), .ref (u8 3), .ref (u8 4), .ref (u8 5), .ref (u8 6), .ref (u8 7)])), ((u8 1), .inr (1, [.ref (u8 8)])), ((u8 2), .inr (1, [.ref (u8 9)])), ((u8 3), .inr (1, [.ref (u8 10)])), ((u8 4), .inr (1, [.ref (u8 11)])), ((u8 5), .inr (1, [.ref (u8 12)])), ((u8 6), .inr (1, [.ref (u8 13)])), ((u8 7), .inr (1, [.ref (u8 14)])), ((u8 8), .inl (cI, 6, .inl (fun _ => nI 0))), ((u8 9), .inl (cI, 180, .inl (fun _ => nI 0))), ((u8 10), .inl (cI, 6, .inl (fun _ => nI 0))), ((u8 11), .inl (cI, 6, .inl (fun _ => nI 0))), ((u8 12), .inl (cI, 6, .inl (fun _ => nI 0))), ((u8 13), .inl (cI, 6, .inl (fun _ => nI 0))), ((u8 14), .inl (cI, 6, .inl (fun _ => nI 0))), (q9, .inr (1, [.ref u10])), (u10, .inl (cI, 6, .inl (fun _ => nI 0)))] := hD
  refine lv_aload_n hx hb dX2_init_85 rfl (lv_at hl 0 rfl) ?_
  refine va_new (ci := 1) (fs := [.null]) (C := RX1) (T := TX1) (N := 1) hx hb hg us_X1 tyX1 tyX1_ok hown (hg _ gm_18) (hg _ gm_19) (hg _ gm_3) hK.1 hP hD hS hA rfl (fun j hj => by rcases (show j = 0 by omega) with rfl <;> rfl) (Nat.le_of_ble_eq_true rfl) (Nat.le_of_ble_eq_true rfl) dX2_init_86 (fun q11 H hP hD hS => ?_)
  have hP : va_P D vwCl [(h0, .inr (2, [.ref q1, .int (nI 0), .int (nI 0), .int (nI 0), .ref q3, .ref (u6 0), .ref (u8 0), .int (nI 0), .ref q9, .null, .null])), (q1, .inr (1, [.ref u2])), (u2, .inl (cI, 19, .inl (fun _ => nI 0))), (q3, .inr (1, [.ref u4])), (u4, .inl (cI, 6, .inl (fun _ => nI 0))), ((u6 0), .inr (0, [.int (nI 0), .int (nI 0), .int (nI 0), .int (nI 0), .ref (u6 1), .ref (u6 2), .ref (u6 3), .ref (u6 4), .ref (u6 5), .ref (u6 6), .ref (u6 7)])), ((u6 1), .inr (1, [.ref (u6 8)])), ((u6 2), .inr (1, [.ref (u6 9)])), ((u6 3), .inr (1, [.ref (u6 10)])), ((u6 4), .inr (1, [.ref (u6 11)])), ((u6 5), .inr (1, [.ref (u6 12)])), ((u6 6), .inr (1, [.ref (u6 13)])), ((u6 7), .inr (1, [.ref (u6 14)])), ((u6 8), .inl (cI, 6, .inl (fun _ => nI 0))), ((u6 9), .inl (cI, 180, .inl (fun _ => nI 0))), ((u6 10), .inl (cI, 6, .inl (fun _ => nI 0))), ((u6 11), .inl (cI, 6, .inl (fun _ => nI 0))), ((u6 12), .inl (cI, 6, .inl (fun _ => nI 0))), ((u6 13), .inl (cI, 6, .inl (fun _ => nI 0))), ((u6 14), .inl (cI, 6, .inl (fun _ => nI 0))), ((u8 0), .inr (0, [.int (nI 0), .int (nI 0), .int (nI 0), .int (nI 0), .ref (u8 1), .ref (u8 2), .ref (u8 3), .ref (u8 4), .ref (u8 5), .ref (u8 6), .ref (u8 7)])), ((u8 1), .inr (1, [.ref (u8 8)])), ((u8 2), .inr (1, [.ref (u8 9)])), ((u8 3), .inr (1, [.ref (u8 10)])), ((u8 4), .inr (1, [.ref (u8 11)])), ((u8 5), .inr (1, [.ref (u8 12)])), ((u8 6), .inr (1, [.ref (u8 13)])), ((u8 7), .inr (1, [.ref (u8 14)])), ((u8 8), .inl (cI, 6, .inl (fun _ => nI 0))), ((u8 9), .inl (cI, 180, .inl (fun _ => nI 0))), ((u8 10), .inl (cI, 6, .inl (fun _ => nI 0))), ((u8 11), .inl (cI, 6, .inl (fun _ => nI 0))), ((u8 12), .inl (cI, 6, .inl (fun _ => nI 0))), ((u8 13), .inl (cI, 6, .inl (fun _ => nI 0))), ((u8 14), .inl (cI, 6, .inl (fun _ => nI 0))), (q9, .inr (1, [.ref u10])), (u10, .inl (cI, 6, .inl (fun _ => nI 0))), (q11, .inr (1, [.null]))] H := hP
  have hD : va_D A [(h0, .inr (2, [.ref q1, .int (nI 0), .int (nI 0), .int (nI 0), .ref q3, .ref (u6 0), .ref (u8 0), .int (nI 0), .ref q9, .null, .null])), (q1, .inr (1, [.ref u2])), (u2, .inl (cI, 19, .inl (fun _ => nI 0))), (q3, .inr (1, [.ref u4])), (u4, .inl (cI, 6, .inl (fun _ => nI 0))), ((u6 0), .inr (0, [.int (nI 0), .int (nI 0), .int (nI 0), .int (nI 0), .ref (u6 1), .ref (u6 2), .ref (u6 3), .ref (u6 4), .ref (u6 5), .ref (u6 6), .ref (u6 7)])), ((u6 1), .inr (1, [.ref (u6 8)])), ((u6 2), .inr (1, [.ref (u6 9)])), ((u6 3), .inr (1, [.ref (u6 10)])), ((u6 4), .inr (1, [.ref (u6 11)])), ((u6 5), .inr (1, [.ref (u6 12)])), ((u6 6), .inr (1, [.ref (u6 13)])), ((u6 7), .inr (1, [.ref (u6 14)])), ((u6 8), .inl (cI, 6, .inl (fun _ => nI 0))), ((u6 9), .inl (cI, 180, .inl (fun _ => nI 0))), ((u6 10), .inl (cI, 6, .inl (fun _ => nI 0))), ((u6 11), .inl (cI, 6, .inl (fun _ => nI 0))), ((u6 12), .inl (cI, 6, .inl (fun _ => nI 0))), ((u6 13), .inl (cI, 6, .inl (fun _ => nI 0))), ((u6 14), .inl (cI, 6, .inl (fun _ => nI 0))), ((u8 0), .inr (0, [.int (nI 0), .int (nI 0), .int (nI 0), .int (nI 0), .ref (u8 1), .ref (u8 2), .ref (u8 3), .ref (u8 4), .ref (u8 5), .ref (u8 6), .ref (u8 7)])), ((u8 1), .inr (1, [.ref (u8 8)])), ((u8 2), .inr (1, [.ref (u8 9)])), ((u8 3), .inr (1, [.ref (u8 10)])), ((u8 4), .inr (1, [.ref (u8 11)])), ((u8 5), .inr (1, [.ref (u8 12)])), ((u8 6), .inr (1, [.ref (u8 13)])), ((u8 7), .inr (1, [.ref (u8 14)])), ((u8 8), .inl (cI, 6, .inl (fun _ => nI 0))), ((u8 9), .inl (cI, 180, .inl (fun _ => nI 0))), ((u8 10), .inl (cI, 6, .inl (fun _ => nI 0))), ((u8 11), .inl (cI, 6, .inl (fun _ => nI 0))), ((u8 12), .inl (cI, 6, .inl (fun _ => nI 0))), ((u8 13), .inl (cI, 6, .inl (fun _ => nI 0))), ((u8 14), .inl (cI, 6, .inl (fun _ => nI 0))), (q9, .inr (1, [.ref u10])), (u10, .inl (cI, 6, .inl (fun _ => nI 0))), (q11, .inr (1, [.null]))] := hD
  refine W.widen (k := 37) (n := 503) (by omega) (by omega) ?_
  refine lv_dup hx hb dX2_init_89 rfl ?_
  refine lv_bipush (v := nI 31) hx hb dX2_init_90 (by decide) ?_
  have hPc := hP.sub (ws' := [(q11, .inr (1, [.null]))]) [37] rfl
  have hDc := hD.sub (ws' := [(q11, .inr (1, [.null]))]) [37] (by decide) rfl
  have hFc := va_free (wc := [(q11, .inr (1, [.null]))]) hD hS hA [37] rfl
  refine va_callv (va_runI (As := [.int (nI 31)]) (rest := [.ref q11, .ref h0]) ⟨hx, hb, hml, hown, hg⟩ (c_X1_init l D cI cB aS q11 H.size 31 (by decide) (hDc.weaken (fun _ _ _ _ => trivial))) (cwI_of hg gm_20 if_X1_init rfl rfl ⟨Nat.le_of_ble_eq_true rfl, Nat.le_of_ble_eq_true rfl⟩) (RPZ.pre hK hPc) rfl rfl hl.1 rfl (lv_room (Nat.le_of_ble_eq_true rfl)) dX2_init_92 ⟨Nat.le_of_ble_eq_true rfl, Nat.le_of_ble_eq_true rfl⟩) hS (fun q _ h => hFc q h) hFc (fun u12 t H1 locs ht hvm hw hB hz1 hk1 hS => ?_)
  obtain ⟨hP1, hD1⟩ := hB
  rw [ht] at hP1
  obtain ⟨hP, hD⟩ := va_join (wr := [(h0, .inr (2, [.ref q1, .int (nI 0), .int (nI 0), .int (nI 0), .ref q3, .ref (u6 0), .ref (u8 0), .int (nI 0), .ref q9, .null, .null])), (q1, .inr (1, [.ref u2])), (u2, .inl (cI, 19, .inl (fun _ => nI 0))), (q3, .inr (1, [.ref u4])), (u4, .inl (cI, 6, .inl (fun _ => nI 0))), ((u6 0), .inr (0, [.int (nI 0), .int (nI 0), .int (nI 0), .int (nI 0), .ref (u6 1), .ref (u6 2), .ref (u6 3), .ref (u6 4), .ref (u6 5), .ref (u6 6), .ref (u6 7)])), ((u6 1), .inr (1, [.ref (u6 8)])), ((u6 2), .inr (1, [.ref (u6 9)])), ((u6 3), .inr (1, [.ref (u6 10)])), ((u6 4), .inr (1, [.ref (u6 11)])), ((u6 5), .inr (1, [.ref (u6 12)])), ((u6 6), .inr (1, [.ref (u6 13)])), ((u6 7), .inr (1, [.ref (u6 14)])), ((u6 8), .inl (cI, 6, .inl (fun _ => nI 0))), ((u6 9), .inl (cI, 180, .inl (fun _ => nI 0))), ((u6 10), .inl (cI, 6, .inl (fun _ => nI 0))), ((u6 11), .inl (cI, 6, .inl (fun _ => nI 0))), ((u6 12), .inl (cI, 6, .inl (fun _ => nI 0))), ((u6 13), .inl (cI, 6, .inl (fun _ => nI 0))), ((u6 14), .inl (cI, 6, .inl (fun _ => nI 0))), ((u8 0), .inr (0, [.int (nI 0), .int (nI 0), .int (nI 0), .int (nI 0), .ref (u8 1), .ref (u8 2), .ref (u8 3), .ref (u8 4), .ref (u8 5), .ref (u8 6), .ref (u8 7)])), ((u8 1), .inr (1, [.ref (u8 8)])), ((u8 2), .inr (1, [.ref (u8 9)])), ((u8 3), .inr (1, [.ref (u8 10)])), ((u8 4), .inr (1, [.ref (u8 11)])), ((u8 5), .inr (1, [.ref (u8 12)])), ((u8 6), .inr (1, [.ref (u8 13)])), ((u8 7), .inr (1, [.ref (u8 14)])), ((u8 8), .inl (cI, 6, .inl (fun _ => nI 0))), ((u8 9), .inl (cI, 180, .inl (fun _ => nI 0))), ((u8 10), .inl (cI, 6, .inl (fun _ => nI 0))), ((u8 11), .inl (cI, 6, .inl (fun _ => nI 0))), ((u8 12), .inl (cI, 6, .inl (fun _ => nI 0))), ((u8 13), .inl (cI, 6, .inl (fun _ => nI 0))), ((u8 14), .inl (cI, 6, .inl (fun _ => nI 0))), (q9, .inr (1, [.ref u10])), (u10, .inl (cI, 6, .inl (fun _ => nI 0)))]) (w1 := [(q11, .inr (1, [.ref u12])), (u12, .inl (cI, 31, .inl (fun _ => nI 0)))]) hP hD [37] [0, 1, 2, 3, 4, 5, 6, 7, 8, 9, 10, 11, 12, 13, 14, 15, 16, 17, 18, 19, 20, 21, 22, 23, 24, 25, 26, 27, 28, 29, 30, 31, 32, 33, 34, 35, 36] rfl rfl (by decide) (by decide) hk1 hFc hP1 hD1
  clear hP1 hD1 hk1 hFc hPc hDc
  generalize H1 = H at hP hS ⊢
  have hP : va_P D vwCl [(h0, .inr (2, [.ref q1, .int (nI 0), .int (nI 0), .int (nI 0), .ref q3, .ref (u6 0), .ref (u8 0), .int (nI 0), .ref q9, .null, .null])), (q1, .inr (1, [.ref u2])), (u2, .inl (cI, 19, .inl (fun _ => nI 0))), (q3, .inr (1, [.ref u4])), (u4, .inl (cI, 6, .inl (fun _ => nI 0))), ((u6 0), .inr (0, [.int (nI 0), .int (nI 0), .int (nI 0), .int (nI 0), .ref (u6 1), .ref (u6 2), .ref (u6 3), .ref (u6 4), .ref (u6 5), .ref (u6 6), .ref (u6 7)])), ((u6 1), .inr (1, [.ref (u6 8)])), ((u6 2), .inr (1, [.ref (u6 9)])), ((u6 3), .inr (1, [.ref (u6 10)])), ((u6 4), .inr (1, [.ref (u6 11)])), ((u6 5), .inr (1, [.ref (u6 12)])), ((u6 6), .inr (1, [.ref (u6 13)])), ((u6 7), .inr (1, [.ref (u6 14)])), ((u6 8), .inl (cI, 6, .inl (fun _ => nI 0))), ((u6 9), .inl (cI, 180, .inl (fun _ => nI 0))), ((u6 10), .inl (cI, 6, .inl (fun _ => nI 0))), ((u6 11), .inl (cI, 6, .inl (fun _ => nI 0))), ((u6 12), .inl (cI, 6, .inl (fun _ => nI 0))), ((u6 13), .inl (cI, 6, .inl (fun _ => nI 0))), ((u6 14), .inl (cI, 6, .inl (fun _ => nI 0))), ((u8 0), .inr (0, [.int (nI 0), .int (nI 0), .int (nI 0), .int (nI 0), .ref (u8 1), .ref (u8 2), .ref (u8 3), .ref (u8 4), .ref (u8 5), .ref (u8 6), .ref (u8 7)])), ((u8 1), .inr (1, [.ref (u8 8)])), ((u8 2), .inr (1, [.ref (u8 9)])), ((u8 3), .inr (1, [.ref (u8 10)])), ((u8 4), .inr (1, [.ref (u8 11)])), ((u8 5), .inr (1, [.ref (u8 12)])), ((u8 6), .inr (1, [.ref (u8 13)])), ((u8 7), .inr (1, [.ref (u8 14)])), ((u8 8), .inl (cI, 6, .inl (fun _ => nI 0))), ((u8 9), .inl (cI, 180, .inl (fun _ => nI 0))), ((u8 10), .inl (cI, 6, .inl (fun _ => nI 0))), ((u8 11), .inl (cI, 6, .inl (fun _ => nI 0))), ((u8 12), .inl (cI, 6, .inl (fun _ => nI 0))), ((u8 13), .inl (cI, 6, .inl (fun _ => nI 0))), ((u8 14), .inl (cI, 6, .inl (fun _ => nI 0))), (q9, .inr (1, [.ref u10])), (u10, .inl (cI, 6, .inl (fun _ => nI 0))), (q11, .inr (1, [.ref u12])), (u12, .inl (cI, 31, .inl (fun _ => nI 0)))] H := hP
  have hD : va_D A [(h0, .inr (2, [.ref q1, .int (nI 0), .int (nI 0), .int (nI 0), .ref q3, .ref (u6 0), .ref (u8 0), .int (nI 0), .ref q9, .null, .null])), (q1, .inr (1, [.ref u2])), (u2, .inl (cI, 19, .inl (fun _ => nI 0))), (q3, .inr (1, [.ref u4])), (u4, .inl (cI, 6, .inl (fun _ => nI 0))), ((u6 0), .inr (0, [.int (nI 0), .int (nI 0), .int (nI 0), .int (nI 0), .ref (u6 1), .ref (u6 2), .ref (u6 3), .ref (u6 4), .ref (u6 5), .ref (u6 6), .ref (u6 7)])), ((u6 1), .inr (1, [.ref (u6 8)])), ((u6 2), .inr (1, [.ref (u6 9)])), ((u6 3), .inr (1, [.ref (u6 10)])), ((u6 4), .inr (1, [.ref (u6 11)])), ((u6 5), .inr (1, [.ref (u6 12)])), ((u6 6), .inr (1, [.ref (u6 13)])), ((u6 7), .inr (1, [.ref (u6 14)])), ((u6 8), .inl (cI, 6, .inl (fun _ => nI 0))), ((u6 9), .inl (cI, 180, .inl (fun _ => nI 0))), ((u6 10), .inl (cI, 6, .inl (fun _ => nI 0))), ((u6 11), .inl (cI, 6, .inl (fun _ => nI 0))), ((u6 12), .inl (cI, 6, .inl (fun _ => nI 0))), ((u6 13), .inl (cI, 6, .inl (fun _ => nI 0))), ((u6 14), .inl (cI, 6, .inl (fun _ => nI 0))), ((u8 0), .inr (0, [.int (nI 0), .int (nI 0), .int (nI 0), .int (nI 0), .ref (u8 1), .ref (u8 2), .ref (u8 3), .ref (u8 4), .ref (u8 5), .ref (u8 6), .ref (u8 7)])), ((u8 1), .inr (1, [.ref (u8 8)])), ((u8 2), .inr (1, [.ref (u8 9)])), ((u8 3), .inr (1, [.ref (u8 10)])), ((u8 4), .inr (1, [.ref (u8 11)])), ((u8 5), .inr (1, [.ref (u8 12)])), ((u8 6), .inr (1, [.ref (u8 13)])), ((u8 7), .inr (1, [.ref (u8 14)])), ((u8 8), .inl (cI, 6, .inl (fun _ => nI 0))), ((u8 9), .inl (cI, 180, .inl (fun _ => nI 0))), ((u8 10), .inl (cI, 6, .inl (fun _ => nI 0))), ((u8 11), .inl (cI, 6, .inl (fun _ => nI 0))), ((u8 12), .inl (cI, 6, .inl (fun _ => nI 0))), ((u8 13), .inl (cI, 6, .inl (fun _ => nI 0))), ((u8 14), .inl (cI, 6, .inl (fun _ => nI 0))), (q9, .inr (1, [.ref u10])), (u10, .inl (cI, 6, .inl (fun _ => nI 0))), (q11, .inr (1, [.ref u12])), (u12, .inl (cI, 31, .inl (fun _ => nI 0)))] := hD
  refine W.widen (k := 38) (n := 534) (by omega) (by omega) ?_
  refine va_putF (D := D) (ci := 2) (v := .ref q11) (ty := .object "BirthStreet$Row") (C := RX2) (T := TX2) (N := 11) hx hb hg us_X2 tyX2 tyX2_ok nmX2 hown hK.1 hP hD hS 0 rfl rfl 9 (by decide) (hg _ gm_75) (fun _ h9 => h9) rfl hin rfl (by decide +kernel) rfl rfl (Nat.le_of_ble_eq_true rfl) dX2_init_95 (fun H locs hP hD hS => ?_)
  have hP : va_P D vwCl [(h0, .inr (2, [.ref q1, .int (nI 0), .int (nI 0), .int (nI 0), .ref q3, .ref (u6 0), .ref (u8 0), .int (nI 0), .ref q9, .ref q11, .null])), (q1, .inr (1, [.ref u2])), (u2, .inl (cI, 19, .inl (fun _ => nI 0))), (q3, .inr (1, [.ref u4])), (u4, .inl (cI, 6, .inl (fun _ => nI 0))), ((u6 0), .inr (0, [.int (nI 0), .int (nI 0), .int (nI 0), .int (nI 0), .ref (u6 1), .ref (u6 2), .ref (u6 3), .ref (u6 4), .ref (u6 5), .ref (u6 6), .ref (u6 7)])), ((u6 1), .inr (1, [.ref (u6 8)])), ((u6 2), .inr (1, [.ref (u6 9)])), ((u6 3), .inr (1, [.ref (u6 10)])), ((u6 4), .inr (1, [.ref (u6 11)])), ((u6 5), .inr (1, [.ref (u6 12)])), ((u6 6), .inr (1, [.ref (u6 13)])), ((u6 7), .inr (1, [.ref (u6 14)])), ((u6 8), .inl (cI, 6, .inl (fun _ => nI 0))), ((u6 9), .inl (cI, 180, .inl (fun _ => nI 0))), ((u6 10), .inl (cI, 6, .inl (fun _ => nI 0))), ((u6 11), .inl (cI, 6, .inl (fun _ => nI 0))), ((u6 12), .inl (cI, 6, .inl (fun _ => nI 0))), ((u6 13), .inl (cI, 6, .inl (fun _ => nI 0))), ((u6 14), .inl (cI, 6, .inl (fun _ => nI 0))), ((u8 0), .inr (0, [.int (nI 0), .int (nI 0), .int (nI 0), .int (nI 0), .ref (u8 1), .ref (u8 2), .ref (u8 3), .ref (u8 4), .ref (u8 5), .ref (u8 6), .ref (u8 7)])), ((u8 1), .inr (1, [.ref (u8 8)])), ((u8 2), .inr (1, [.ref (u8 9)])), ((u8 3), .inr (1, [.ref (u8 10)])), ((u8 4), .inr (1, [.ref (u8 11)])), ((u8 5), .inr (1, [.ref (u8 12)])), ((u8 6), .inr (1, [.ref (u8 13)])), ((u8 7), .inr (1, [.ref (u8 14)])), ((u8 8), .inl (cI, 6, .inl (fun _ => nI 0))), ((u8 9), .inl (cI, 180, .inl (fun _ => nI 0))), ((u8 10), .inl (cI, 6, .inl (fun _ => nI 0))), ((u8 11), .inl (cI, 6, .inl (fun _ => nI 0))), ((u8 12), .inl (cI, 6, .inl (fun _ => nI 0))), ((u8 13), .inl (cI, 6, .inl (fun _ => nI 0))), ((u8 14), .inl (cI, 6, .inl (fun _ => nI 0))), (q9, .inr (1, [.ref u10])), (u10, .inl (cI, 6, .inl (fun _ => nI 0))), (q11, .inr (1, [.ref u12])), (u12, .inl (cI, 31, .inl (fun _ => nI 0)))] H := hP
  have hD : va_D A [(h0, .inr (2, [.ref q1, .int (nI 0), .int (nI 0), .int (nI 0), .ref q3, .ref (u6 0), .ref (u8 0), .int (nI 0), .ref q9, .ref q11, .null])), (q1, .inr (1, [.ref u2])), (u2, .inl (cI, 19, .inl (fun _ => nI 0))), (q3, .inr (1, [.ref u4])), (u4, .inl (cI, 6, .inl (fun _ => nI 0))), ((u6 0), .inr (0, [.int (nI 0), .int (nI 0), .int (nI 0), .int (nI 0), .ref (u6 1), .ref (u6 2), .ref (u6 3), .ref (u6 4), .ref (u6 5), .ref (u6 6), .ref (u6 7)])), ((u6 1), .inr (1, [.ref (u6 8)])), ((u6 2), .inr (1, [.ref (u6 9)])), ((u6 3), .inr (1, [.ref (u6 10)])), ((u6 4), .inr (1, [.ref (u6 11)])), ((u6 5), .inr (1, [.ref (u6 12)])), ((u6 6), .inr (1, [.ref (u6 13)])), ((u6 7), .inr (1, [.ref (u6 14)])), ((u6 8), .inl (cI, 6, .inl (fun _ => nI 0))), ((u6 9), .inl (cI, 180, .inl (fun _ => nI 0))), ((u6 10), .inl (cI, 6, .inl (fun _ => nI 0))), ((u6 11), .inl (cI, 6, .inl (fun _ => nI 0))), ((u6 12), .inl (cI, 6, .inl (fun _ => nI 0))), ((u6 13), .inl (cI, 6, .inl (fun _ => nI 0))), ((u6 14), .inl (cI, 6, .inl (fun _ => nI 0))), ((u8 0), .inr (0, [.int (nI 0), .int (nI 0), .int (nI 0), .int (nI 0), .ref (u8 1), .ref (u8 2), .ref (u8 3), .ref (u8 4), .ref (u8 5), .ref (u8 6), .ref (u8 7)])), ((u8 1), .inr (1, [.ref (u8 8)])), ((u8 2), .inr (1, [.ref (u8 9)])), ((u8 3), .inr (1, [.ref (u8 10)])), ((u8 4), .inr (1, [.ref (u8 11)])), ((u8 5), .inr (1, [.ref (u8 12)])), ((u8 6), .inr (1, [.ref (u8 13)])), ((u8 7), .inr (1, [.ref (u8 14)])), ((u8 8), .inl (cI, 6, .inl (fun _ => nI 0))), ((u8 9), .inl (cI, 180, .inl (fun _ => nI 0))), ((u8 10), .inl (cI, 6, .inl (fun _ => nI 0))), ((u8 11), .inl (cI, 6, .inl (fun _ => nI 0))), ((u8 12), .inl (cI, 6, .inl (fun _ => nI 0))), ((u8 13), .inl (cI, 6, .inl (fun _ => nI 0))), ((u8 14), .inl (cI, 6, .inl (fun _ => nI 0))), (q9, .inr (1, [.ref u10])), (u10, .inl (cI, 6, .inl (fun _ => nI 0))), (q11, .inr (1, [.ref u12])), (u12, .inl (cI, 31, .inl (fun _ => nI 0)))] := hD
  refine lv_aload_n hx hb dX2_init_98 rfl (lv_at hl 0 rfl) ?_
  refine va_new (ci := 1) (fs := [.null]) (C := RX1) (T := TX1) (N := 1) hx hb hg us_X1 tyX1 tyX1_ok hown (hg _ gm_18) (hg _ gm_19) (hg _ gm_3) hK.1 hP hD hS hA rfl (fun j hj => by rcases (show j = 0 by omega) with rfl <;> rfl) (Nat.le_of_ble_eq_true rfl) (Nat.le_of_ble_eq_true rfl) dX2_init_99 (fun q13 H hP hD hS => ?_)
  have hP : va_P D vwCl [(h0, .inr (2, [.ref q1, .int (nI 0), .int (nI 0), .int (nI 0), .ref q3, .ref (u6 0), .ref (u8 0), .int (nI 0), .ref q9, .ref q11, .null])), (q1, .inr (1, [.ref u2])), (u2, .inl (cI, 19, .inl (fun _ => nI 0))), (q3, .inr (1, [.ref u4])), (u4, .inl (cI, 6, .inl (fun _ => nI 0))), ((u6 0), .inr (0, [.int (nI 0), .int (nI 0), .int (nI 0), .int (nI 0), .ref (u6 1), .ref (u6 2), .ref (u6 3), .ref (u6 4), .ref (u6 5), .ref (u6 6), .ref (u6 7)])), ((u6 1), .inr (1, [.ref (u6 8)])), ((u6 2), .inr (1, [.ref (u6 9)])), ((u6 3), .inr (1, [.ref (u6 10)])), ((u6 4), .inr (1, [.ref (u6 11)])), ((u6 5), .inr (1, [.ref (u6 12)])), ((u6 6), .inr (1, [.ref (u6 13)])), ((u6 7), .inr (1, [.ref (u6 14)])), ((u6 8), .inl (cI, 6, .inl (fun _ => nI 0))), ((u6 9), .inl (cI, 180, .inl (fun _ => nI 0))), ((u6 10), .inl (cI, 6, .inl (fun _ => nI 0))), ((u6 11), .inl (cI, 6, .inl (fun _ => nI 0))), ((u6 12), .inl (cI, 6, .inl (fun _ => nI 0))), ((u6 13), .inl (cI, 6, .inl (fun _ => nI 0))), ((u6 14), .inl (cI, 6, .inl (fun _ => nI 0))), ((u8 0), .inr (0, [.int (nI 0), .int (nI 0), .int (nI 0), .int (nI 0), .ref (u8 1), .ref (u8 2), .ref (u8 3), .ref (u8 4), .ref (u8 5), .ref (u8 6), .ref (u8 7)])), ((u8 1), .inr (1, [.ref (u8 8)])), ((u8 2), .inr (1, [.ref (u8 9)])), ((u8 3), .inr (1, [.ref (u8 10)])), ((u8 4), .inr (1, [.ref (u8 11)])), ((u8 5), .inr (1, [.ref (u8 12)])), ((u8 6), .inr (1, [.ref (u8 13)])), ((u8 7), .inr (1, [.ref (u8 14)])), ((u8 8), .inl (cI, 6, .inl (fun _ => nI 0))), ((u8 9), .inl (cI, 180, .inl (fun _ => nI 0))), ((u8 10), .inl (cI, 6, .inl (fun _ => nI 0))), ((u8 11), .inl (cI, 6, .inl (fun _ => nI 0))), ((u8 12), .inl (cI, 6, .inl (fun _ => nI 0))), ((u8 13), .inl (cI, 6, .inl (fun _ => nI 0))), ((u8 14), .inl (cI, 6, .inl (fun _ => nI 0))), (q9, .inr (1, [.ref u10])), (u10, .inl (cI, 6, .inl (fun _ => nI 0))), (q11, .inr (1, [.ref u12])), (u12, .inl (cI, 31, .inl (fun _ => nI 0))), (q13, .inr (1, [.null]))] H := hP
  have hD : va_D A [(h0, .inr (2, [.ref q1, .int (nI 0), .int (nI 0), .int (nI 0), .ref q3, .ref (u6 0), .ref (u8 0), .int (nI 0), .ref q9, .ref q11, .null])), (q1, .inr (1, [.ref u2])), (u2, .inl (cI, 19, .inl (fun _ => nI 0))), (q3, .inr (1, [.ref u4])), (u4, .inl (cI, 6, .inl (fun _ => nI 0))), ((u6 0), .inr (0, [.int (nI 0), .int (nI 0), .int (nI 0), .int (nI 0), .ref (u6 1), .ref (u6 2), .ref (u6 3), .ref (u6 4), .ref (u6 5), .ref (u6 6), .ref (u6 7)])), ((u6 1), .inr (1, [.ref (u6 8)])), ((u6 2), .inr (1, [.ref (u6 9)])), ((u6 3), .inr (1, [.ref (u6 10)])), ((u6 4), .inr (1, [.ref (u6 11)])), ((u6 5), .inr (1, [.ref (u6 12)])), ((u6 6), .inr (1, [.ref (u6 13)])), ((u6 7), .inr (1, [.ref (u6 14)])), ((u6 8), .inl (cI, 6, .inl (fun _ => nI 0))), ((u6 9), .inl (cI, 180, .inl (fun _ => nI 0))), ((u6 10), .inl (cI, 6, .inl (fun _ => nI 0))), ((u6 11), .inl (cI, 6, .inl (fun _ => nI 0))), ((u6 12), .inl (cI, 6, .inl (fun _ => nI 0))), ((u6 13), .inl (cI, 6, .inl (fun _ => nI 0))), ((u6 14), .inl (cI, 6, .inl (fun _ => nI 0))), ((u8 0), .inr (0, [.int (nI 0), .int (nI 0), .int (nI 0), .int (nI 0), .ref (u8 1), .ref (u8 2), .ref (u8 3), .ref (u8 4), .ref (u8 5), .ref (u8 6), .ref (u8 7)])), ((u8 1), .inr (1, [.ref (u8 8)])), ((u8 2), .inr (1, [.ref (u8 9)])), ((u8 3), .inr (1, [.ref (u8 10)])), ((u8 4), .inr (1, [.ref (u8 11)])), ((u8 5), .inr (1, [.ref (u8 12)])), ((u8 6), .inr (1, [.ref (u8 13)])), ((u8 7), .inr (1, [.ref (u8 14)])), ((u8 8), .inl (cI, 6, .inl (fun _ => nI 0))), ((u8 9), .inl (cI, 180, .inl (fun _ => nI 0))), ((u8 10), .inl (cI, 6, .inl (fun _ => nI 0))), ((u8 11), .inl (cI, 6, .inl (fun _ => nI 0))), ((u8 12), .inl (cI, 6, .inl (fun _ => nI 0))), ((u8 13), .inl (cI, 6, .inl (fun _ => nI 0))), ((u8 14), .inl (cI, 6, .inl (fun _ => nI 0))), (q9, .inr (1, [.ref u10])), (u10, .inl (cI, 6, .inl (fun _ => nI 0))), (q11, .inr (1, [.ref u12])), (u12, .inl (cI, 31, .inl (fun _ => nI 0))), (q13, .inr (1, [.null]))] := hD
  refine W.widen (k := 39) (n := 535) (by omega) (by omega) ?_
  refine lv_dup hx hb dX2_init_102 rfl ?_
  refine lv_bipush (v := nI 40) hx hb dX2_init_103 (by decide) ?_
  have hPc := hP.sub (ws' := [(q13, .inr (1, [.null]))]) [39] rfl
  have hDc := hD.sub (ws' := [(q13, .inr (1, [.null]))]) [39] (by decide) rfl
  have hFc := va_free (wc := [(q13, .inr (1, [.null]))]) hD hS hA [39] rfl
  refine va_callv (va_runI (As := [.int (nI 40)]) (rest := [.ref q13, .ref h0]) ⟨hx, hb, hml, hown, hg⟩ (c_X1_init l D cI cB aS q13 H.size 40 (by decide) (hDc.weaken (fun _ _ _ _ => trivial))) (cwI_of hg gm_20 if_X1_init rfl rfl ⟨Nat.le_of_ble_eq_true rfl, Nat.le_of_ble_eq_true rfl⟩) (RPZ.pre hK hPc) rfl rfl hl.1 rfl (lv_room (Nat.le_of_ble_eq_true rfl)) dX2_init_105 ⟨Nat.le_of_ble_eq_true rfl, Nat.le_of_ble_eq_true rfl⟩) hS (fun q _ h => hFc q h) hFc (fun u14 t H1 locs ht hvm hw hB hz1 hk1 hS => ?_)
  obtain ⟨hP1, hD1⟩ := hB
  rw [ht] at hP1
  obtain ⟨hP, hD⟩ := va_join (wr := [(h0, .inr (2, [.ref q1, .int (nI 0), .int (nI 0), .int (nI 0), .ref q3, .ref (u6 0), .ref (u8 0), .int (nI 0), .ref q9, .ref q11, .null])), (q1, .inr (1, [.ref u2])), (u2, .inl (cI, 19, .inl (fun _ => nI 0))), (q3, .inr (1, [.ref u4])), (u4, .inl (cI, 6, .inl (fun _ => nI 0))), ((u6 0), .inr (0, [.int (nI 0), .int (nI 0), .int (nI 0), .int (nI 0), .ref (u6 1), .ref (u6 2), .ref (u6 3), .ref (u6 4), .ref (u6 5), .ref (u6 6), .ref (u6 7)])), ((u6 1), .inr (1, [.ref (u6 8)])), ((u6 2), .inr (1, [.ref (u6 9)])), ((u6 3), .inr (1, [.ref (u6 10)])), ((u6 4), .inr (1, [.ref (u6 11)])), ((u6 5), .inr (1, [.ref (u6 12)])), ((u6 6), .inr (1, [.ref (u6 13)])), ((u6 7), .inr (1, [.ref (u6 14)])), ((u6 8), .inl (cI, 6, .inl (fun _ => nI 0))), ((u6 9), .inl (cI, 180, .inl (fun _ => nI 0))), ((u6 10), .inl (cI, 6, .inl (fun _ => nI 0))), ((u6 11), .inl (cI, 6, .inl (fun _ => nI 0))), ((u6 12), .inl (cI, 6, .inl (fun _ => nI 0))), ((u6 13), .inl (cI, 6, .inl (fun _ => nI 0))), ((u6 14), .inl (cI, 6, .inl (fun _ => nI 0))), ((u8 0), .inr (0, [.int (nI 0), .int (nI 0), .int (nI 0), .int (nI 0), .ref (u8 1), .ref (u8 2), .ref (u8 3), .ref (u8 4), .ref (u8 5), .ref (u8 6), .ref (u8 7)])), ((u8 1), .inr (1, [.ref (u8 8)])), ((u8 2), .inr (1, [.ref (u8 9)])), ((u8 3), .inr (1, [.ref (u8 10)])), ((u8 4), .inr (1, [.ref (u8 11)])), ((u8 5), .inr (1, [.ref (u8 12)])), ((u8 6), .inr (1, [.ref (u8 13)])), ((u8 7), .inr (1, [.ref (u8 14)])), ((u8 8), .inl (cI, 6, .inl (fun _ => nI 0))), ((u8 9), .inl (cI, 180, .inl (fun _ => nI 0))), ((u8 10), .inl (cI, 6, .inl (fun _ => nI 0))), ((u8 11), .inl (cI, 6, .inl (fun _ => nI 0))), ((u8 12), .inl (cI, 6, .inl (fun _ => nI 0))), ((u8 13), .inl (cI, 6, .inl (fun _ => nI 0))), ((u8 14), .inl (cI, 6, .inl (fun _ => nI 0))), (q9, .inr (1, [.ref u10])), (u10, .inl (cI, 6, .inl (fun _ => nI 0))), (q11, .inr (1, [.ref u12])), (u12, .inl (cI, 31, .inl (fun _ => nI 0)))]) (w1 := [(q13, .inr (1, [.ref u14])), (u14, .inl (cI, 40, .inl (fun _ => nI 0)))]) hP hD [39] [0, 1, 2, 3, 4, 5, 6, 7, 8, 9, 10, 11, 12, 13, 14, 15, 16, 17, 18, 19, 20, 21, 22, 23, 24, 25, 26, 27, 28, 29, 30, 31, 32, 33, 34, 35, 36, 37, 38] rfl rfl (by decide) (by decide) hk1 hFc hP1 hD1
  clear hP1 hD1 hk1 hFc hPc hDc
  generalize H1 = H at hP hS ⊢
  have hP : va_P D vwCl [(h0, .inr (2, [.ref q1, .int (nI 0), .int (nI 0), .int (nI 0), .ref q3, .ref (u6 0), .ref (u8 0), .int (nI 0), .ref q9, .ref q11, .null])), (q1, .inr (1, [.ref u2])), (u2, .inl (cI, 19, .inl (fun _ => nI 0))), (q3, .inr (1, [.ref u4])), (u4, .inl (cI, 6, .inl (fun _ => nI 0))), ((u6 0), .inr (0, [.int (nI 0), .int (nI 0), .int (nI 0), .int (nI 0), .ref (u6 1), .ref (u6 2), .ref (u6 3), .ref (u6 4), .ref (u6 5), .ref (u6 6), .ref (u6 7)])), ((u6 1), .inr (1, [.ref (u6 8)])), ((u6 2), .inr (1, [.ref (u6 9)])), ((u6 3), .inr (1, [.ref (u6 10)])), ((u6 4), .inr (1, [.ref (u6 11)])), ((u6 5), .inr (1, [.ref (u6 12)])), ((u6 6), .inr (1, [.ref (u6 13)])), ((u6 7), .inr (1, [.ref (u6 14)])), ((u6 8), .inl (cI, 6, .inl (fun _ => nI 0))), ((u6 9), .inl (cI, 180, .inl (fun _ => nI 0))), ((u6 10), .inl (cI, 6, .inl (fun _ => nI 0))), ((u6 11), .inl (cI, 6, .inl (fun _ => nI 0))), ((u6 12), .inl (cI, 6, .inl (fun _ => nI 0))), ((u6 13), .inl (cI, 6, .inl (fun _ => nI 0))), ((u6 14), .inl (cI, 6, .inl (fun _ => nI 0))), ((u8 0), .inr (0, [.int (nI 0), .int (nI 0), .int (nI 0), .int (nI 0), .ref (u8 1), .ref (u8 2), .ref (u8 3), .ref (u8 4), .ref (u8 5), .ref (u8 6), .ref (u8 7)])), ((u8 1), .inr (1, [.ref (u8 8)])), ((u8 2), .inr (1, [.ref (u8 9)])), ((u8 3), .inr (1, [.ref (u8 10)])), ((u8 4), .inr (1, [.ref (u8 11)])), ((u8 5), .inr (1, [.ref (u8 12)])), ((u8 6), .inr (1, [.ref (u8 13)])), ((u8 7), .inr (1, [.ref (u8 14)])), ((u8 8), .inl (cI, 6, .inl (fun _ => nI 0))), ((u8 9), .inl (cI, 180, .inl (fun _ => nI 0))), ((u8 10), .inl (cI, 6, .inl (fun _ => nI 0))), ((u8 11), .inl (cI, 6, .inl (fun _ => nI 0))), ((u8 12), .inl (cI, 6, .inl (fun _ => nI 0))), ((u8 13), .inl (cI, 6, .inl (fun _ => nI 0))), ((u8 14), .inl (cI, 6, .inl (fun _ => nI 0))), (q9, .inr (1, [.ref u10])), (u10, .inl (cI, 6, .inl (fun _ => nI 0))), (q11, .inr (1, [.ref u12])), (u12, .inl (cI, 31, .inl (fun _ => nI 0))), (q13, .inr (1, [.ref u14])), (u14, .inl (cI, 40, .inl (fun _ => nI 0)))] H := hP
  have hD : va_D A [(h0, .inr (2, [.ref q1, .int (nI 0), .int (nI 0), .int (nI 0), .ref q3, .ref (u6 0), .ref (u8 0), .int (nI 0), .ref q9, .ref q11, .null])), (q1, .inr (1, [.ref u2])), (u2, .inl (cI, 19, .inl (fun _ => nI 0))), (q3, .inr (1, [.ref u4])), (u4, .inl (cI, 6, .inl (fun _ => nI 0))), ((u6 0), .inr (0, [.int (nI 0), .int (nI 0), .int (nI 0), .int (nI 0), .ref (u6 1), .ref (u6 2), .ref (u6 3), .ref (u6 4), .ref (u6 5), .ref (u6 6), .ref (u6 7)])), ((u6 1), .inr (1, [.ref (u6 8)])), ((u6 2), .inr (1, [.ref (u6 9)])), ((u6 3), .inr (1, [.ref (u6 10)])), ((u6 4), .inr (1, [.ref (u6 11)])), ((u6 5), .inr (1, [.ref (u6 12)])), ((u6 6), .inr (1, [.ref (u6 13)])), ((u6 7), .inr (1, [.ref (u6 14)])), ((u6 8), .inl (cI, 6, .inl (fun _ => nI 0))), ((u6 9), .inl (cI, 180, .inl (fun _ => nI 0))), ((u6 10), .inl (cI, 6, .inl (fun _ => nI 0))), ((u6 11), .inl (cI, 6, .inl (fun _ => nI 0))), ((u6 12), .inl (cI, 6, .inl (fun _ => nI 0))), ((u6 13), .inl (cI, 6, .inl (fun _ => nI 0))), ((u6 14), .inl (cI, 6, .inl (fun _ => nI 0))), ((u8 0), .inr (0, [.int (nI 0), .int (nI 0), .int (nI 0), .int (nI 0), .ref (u8 1), .ref (u8 2), .ref (u8 3), .ref (u8 4), .ref (u8 5), .ref (u8 6), .ref (u8 7)])), ((u8 1), .inr (1, [.ref (u8 8)])), ((u8 2), .inr (1, [.ref (u8 9)])), ((u8 3), .inr (1, [.ref (u8 10)])), ((u8 4), .inr (1, [.ref (u8 11)])), ((u8 5), .inr (1, [.ref (u8 12)])), ((u8 6), .inr (1, [.ref (u8 13)])), ((u8 7), .inr (1, [.ref (u8 14)])), ((u8 8), .inl (cI, 6, .inl (fun _ => nI 0))), ((u8 9), .inl (cI, 180, .inl (fun _ => nI 0))), ((u8 10), .inl (cI, 6, .inl (fun _ => nI 0))), ((u8 11), .inl (cI, 6, .inl (fun _ => nI 0))), ((u8 12), .inl (cI, 6, .inl (fun _ => nI 0))), ((u8 13), .inl (cI, 6, .inl (fun _ => nI 0))), ((u8 14), .inl (cI, 6, .inl (fun _ => nI 0))), (q9, .inr (1, [.ref u10])), (u10, .inl (cI, 6, .inl (fun _ => nI 0))), (q11, .inr (1, [.ref u12])), (u12, .inl (cI, 31, .inl (fun _ => nI 0))), (q13, .inr (1, [.ref u14])), (u14, .inl (cI, 40, .inl (fun _ => nI 0)))] := hD
  refine W.widen (k := 40) (n := 575) (by omega) (by omega) ?_
  refine va_putF (D := D) (ci := 2) (v := .ref q13) (ty := .object "BirthStreet$Row") (C := RX2) (T := TX2) (N := 11) hx hb hg us_X2 tyX2 tyX2_ok nmX2 hown hK.1 hP hD hS 0 rfl rfl 10 (by decide) (hg _ gm_76) (fun _ h9 => h9) rfl hin rfl (by decide +kernel) rfl rfl (Nat.le_of_ble_eq_true rfl) dX2_init_108 (fun H locs hP hD hS => ?_)
  have hP : va_P D vwCl [(h0, .inr (2, [.ref q1, .int (nI 0), .int (nI 0), .int (nI 0), .ref q3, .ref (u6 0), .ref (u8 0), .int (nI 0), .ref q9, .ref q11, .ref q13])), (q1, .inr (1, [.ref u2])), (u2, .inl (cI, 19, .inl (fun _ => nI 0))), (q3, .inr (1, [.ref u4])), (u4, .inl (cI, 6, .inl (fun _ => nI 0))), ((u6 0), .inr (0, [.int (nI 0), .int (nI 0), .int (nI 0), .int (nI 0), .ref (u6 1), .ref (u6 2), .ref (u6 3), .ref (u6 4), .ref (u6 5), .ref (u6 6), .ref (u6 7)])), ((u6 1), .inr (1, [.ref (u6 8)])), ((u6 2), .inr (1, [.ref (u6 9)])), ((u6 3), .inr (1, [.ref (u6 10)])), ((u6 4), .inr (1, [.ref (u6 11)])), ((u6 5), .inr (1, [.ref (u6 12)])), ((u6 6), .inr (1, [.ref (u6 13)])), ((u6 7), .inr (1, [.ref (u6 14)])), ((u6 8), .inl (cI, 6, .inl (fun _ => nI 0))), ((u6 9), .inl (cI, 180, .inl (fun _ => nI 0))), ((u6 10), .inl (cI, 6, .inl (fun _ => nI 0))), ((u6 11), .inl (cI, 6, .inl (fun _ => nI 0))), ((u6 12), .inl (cI, 6, .inl (fun _ => nI 0))), ((u6 13), .inl (cI, 6, .inl (fun _ => nI 0))), ((u6 14), .inl (cI, 6, .inl (fun _ => nI 0))), ((u8 0), .inr (0, [.int (nI 0), .int (nI 0), .int (nI 0), .int (nI 0), .ref (u8 1), .ref (u8 2), .ref (u8 3), .ref (u8 4), .ref (u8 5), .ref (u8 6), .ref (u8 7)])), ((u8 1), .inr (1, [.ref (u8 8)])), ((u8 2), .inr (1, [.ref (u8 9)])), ((u8 3), .inr (1, [.ref (u8 10)])), ((u8 4), .inr (1, [.ref (u8 11)])), ((u8 5), .inr (1, [.ref (u8 12)])), ((u8 6), .inr (1, [.ref (u8 13)])), ((u8 7), .inr (1, [.ref (u8 14)])), ((u8 8), .inl (cI, 6, .inl (fun _ => nI 0))), ((u8 9), .inl (cI, 180, .inl (fun _ => nI 0))), ((u8 10), .inl (cI, 6, .inl (fun _ => nI 0))), ((u8 11), .inl (cI, 6, .inl (fun _ => nI 0))), ((u8 12), .inl (cI, 6, .inl (fun _ => nI 0))), ((u8 13), .inl (cI, 6, .inl (fun _ => nI 0))), ((u8 14), .inl (cI, 6, .inl (fun _ => nI 0))), (q9, .inr (1, [.ref u10])), (u10, .inl (cI, 6, .inl (fun _ => nI 0))), (q11, .inr (1, [.ref u12])), (u12, .inl (cI, 31, .inl (fun _ => nI 0))), (q13, .inr (1, [.ref u14])), (u14, .inl (cI, 40, .inl (fun _ => nI 0)))] H := hP
  have hD : va_D A [(h0, .inr (2, [.ref q1, .int (nI 0), .int (nI 0), .int (nI 0), .ref q3, .ref (u6 0), .ref (u8 0), .int (nI 0), .ref q9, .ref q11, .ref q13])), (q1, .inr (1, [.ref u2])), (u2, .inl (cI, 19, .inl (fun _ => nI 0))), (q3, .inr (1, [.ref u4])), (u4, .inl (cI, 6, .inl (fun _ => nI 0))), ((u6 0), .inr (0, [.int (nI 0), .int (nI 0), .int (nI 0), .int (nI 0), .ref (u6 1), .ref (u6 2), .ref (u6 3), .ref (u6 4), .ref (u6 5), .ref (u6 6), .ref (u6 7)])), ((u6 1), .inr (1, [.ref (u6 8)])), ((u6 2), .inr (1, [.ref (u6 9)])), ((u6 3), .inr (1, [.ref (u6 10)])), ((u6 4), .inr (1, [.ref (u6 11)])), ((u6 5), .inr (1, [.ref (u6 12)])), ((u6 6), .inr (1, [.ref (u6 13)])), ((u6 7), .inr (1, [.ref (u6 14)])), ((u6 8), .inl (cI, 6, .inl (fun _ => nI 0))), ((u6 9), .inl (cI, 180, .inl (fun _ => nI 0))), ((u6 10), .inl (cI, 6, .inl (fun _ => nI 0))), ((u6 11), .inl (cI, 6, .inl (fun _ => nI 0))), ((u6 12), .inl (cI, 6, .inl (fun _ => nI 0))), ((u6 13), .inl (cI, 6, .inl (fun _ => nI 0))), ((u6 14), .inl (cI, 6, .inl (fun _ => nI 0))), ((u8 0), .inr (0, [.int (nI 0), .int (nI 0), .int (nI 0), .int (nI 0), .ref (u8 1), .ref (u8 2), .ref (u8 3), .ref (u8 4), .ref (u8 5), .ref (u8 6), .ref (u8 7)])), ((u8 1), .inr (1, [.ref (u8 8)])), ((u8 2), .inr (1, [.ref (u8 9)])), ((u8 3), .inr (1, [.ref (u8 10)])), ((u8 4), .inr (1, [.ref (u8 11)])), ((u8 5), .inr (1, [.ref (u8 12)])), ((u8 6), .inr (1, [.ref (u8 13)])), ((u8 7), .inr (1, [.ref (u8 14)])), ((u8 8), .inl (cI, 6, .inl (fun _ => nI 0))), ((u8 9), .inl (cI, 180, .inl (fun _ => nI 0))), ((u8 10), .inl (cI, 6, .inl (fun _ => nI 0))), ((u8 11), .inl (cI, 6, .inl (fun _ => nI 0))), ((u8 12), .inl (cI, 6, .inl (fun _ => nI 0))), ((u8 13), .inl (cI, 6, .inl (fun _ => nI 0))), ((u8 14), .inl (cI, 6, .inl (fun _ => nI 0))), (q9, .inr (1, [.ref u10])), (u10, .inl (cI, 6, .inl (fun _ => nI 0))), (q11, .inr (1, [.ref u12])), (u12, .inl (cI, 31, .inl (fun _ => nI 0))), (q13, .inr (1, [.ref u14])), (u14, .inl (cI, 40, .inl (fun _ => nI 0)))] := hD
  obtain ⟨a, ea⟩ : ∃ a : Nat → Nat, a = (fun i => ([h0, q1, u2, q3, u4, (u6 0), (u6 1), (u6 2), (u6 3), (u6 4), (u6 5), (u6 6), (u6 7), (u6 8), (u6 9), (u6 10), (u6 11), (u6 12), (u6 13), (u6 14), (u8 0), (u8 1), (u8 2), (u8 3), (u8 4), (u8 5), (u8 6), (u8 7), (u8 8), (u8 9), (u8 10), (u8 11), (u8 12), (u8 13), (u8 14), q9, u10, q11, u12, q13, u14] : List Nat).getD i 0) := ⟨_, rfl⟩
  have e_0 : h0 = a 0 := by rw [ea]; rfl
  have e_1 : q1 = a 1 := by rw [ea]; rfl
  have e_2 : u2 = a 2 := by rw [ea]; rfl
  have e_3 : q3 = a 3 := by rw [ea]; rfl
  have e_4 : u4 = a 4 := by rw [ea]; rfl
  have e_5 : u6 0 = a 5 := by rw [ea]; rfl
  have e_6 : u6 1 = a 6 := by rw [ea]; rfl
  have e_7 : u6 2 = a 7 := by rw [ea]; rfl
  have e_8 : u6 3 = a 8 := by rw [ea]; rfl
  have e_9 : u6 4 = a 9 := by rw [ea]; rfl
  have e_10 : u6 5 = a 10 := by rw [ea]; rfl
  have e_11 : u6 6 = a 11 := by rw [ea]; rfl
  have e_12 : u6 7 = a 12 := by rw [ea]; rfl
  have e_13 : u6 8 = a 13 := by rw [ea]; rfl
  have e_14 : u6 9 = a 14 := by rw [ea]; rfl
  have e_15 : u6 10 = a 15 := by rw [ea]; rfl
  have e_16 : u6 11 = a 16 := by rw [ea]; rfl
  have e_17 : u6 12 = a 17 := by rw [ea]; rfl
  have e_18 : u6 13 = a 18 := by rw [ea]; rfl
  have e_19 : u6 14 = a 19 := by rw [ea]; rfl
  have e_20 : u8 0 = a 20 := by rw [ea]; rfl
  have e_21 : u8 1 = a 21 := by rw [ea]; rfl
  have e_22 : u8 2 = a 22 := by rw [ea]; rfl
  have e_23 : u8 3 = a 23 := by rw [ea]; rfl
  have e_24 : u8 4 = a 24 := by rw [ea]; rfl
  have e_25 : u8 5 = a 25 := by rw [ea]; rfl
  have e_26 : u8 6 = a 26 := by rw [ea]; rfl
  have e_27 : u8 7 = a 27 := by rw [ea]; rfl
  have e_28 : u8 8 = a 28 := by rw [ea]; rfl
  have e_29 : u8 9 = a 29 := by rw [ea]; rfl
  have e_30 : u8 10 = a 30 := by rw [ea]; rfl
  have e_31 : u8 11 = a 31 := by rw [ea]; rfl
  have e_32 : u8 12 = a 32 := by rw [ea]; rfl
  have e_33 : u8 13 = a 33 := by rw [ea]; rfl
  have e_34 : u8 14 = a 34 := by rw [ea]; rfl
  have e_35 : q9 = a 35 := by rw [ea]; rfl
  have e_36 : u10 = a 36 := by rw [ea]; rfl
  have e_37 : q11 = a 37 := by rw [ea]; rfl
  have e_38 : u12 = a 38 := by rw [ea]; rfl
  have e_39 : q13 = a 39 := by rw [ea]; rfl
  have e_40 : u14 = a 40 := by rw [ea]; rfl
  clear ea
  rw [e_0] at hP hD
  rw [e_1] at hP hD
  rw [e_2] at hP hD
  rw [e_3] at hP hD
  rw [e_4] at hP hD
  rw [e_5] at hP hD
  rw [e_6] at hP hD
  rw [e_7] at hP hD
  rw [e_8] at hP hD
  rw [e_9] at hP hD
  rw [e_10] at hP hD
  rw [e_11] at hP hD
  rw [e_12] at hP hD
  rw [e_13] at hP hD
  rw [e_14] at hP hD
  rw [e_15] at hP hD
  rw [e_16] at hP hD
  rw [e_17] at hP hD
  rw [e_18] at hP hD
  rw [e_19] at hP hD
  rw [e_20] at hP hD
  rw [e_21] at hP hD
  rw [e_22] at hP hD
  rw [e_23] at hP hD
  rw [e_24] at hP hD
  rw [e_25] at hP hD
  rw [e_26] at hP hD
  rw [e_27] at hP hD
  rw [e_28] at hP hD
  rw [e_29] at hP hD
  rw [e_30] at hP hD
  rw [e_31] at hP hD
  rw [e_32] at hP hD
  rw [e_33] at hP hD
  rw [e_34] at hP hD
  rw [e_35] at hP hD
  rw [e_36] at hP hD
  rw [e_37] at hP hD
  rw [e_38] at hP hD
  rw [e_39] at hP hD
  rw [e_40] at hP hD
  exact x2_end hAe hx hb hr hlocks hS e_0.symm hP hD dX2_init_111
end
