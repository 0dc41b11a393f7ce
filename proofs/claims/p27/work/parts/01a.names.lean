-- ===== PART A: goes FIRST, ahead of the names: the tables' words, and 'selects' of the private methods out of them =====
/-- a private method of a class that the tables say can be made, by its rows of tables_1 -/
def lw_okq (q : MethodName × Nat) : Prop := (q.1.cls ≠ "java/lang/invoke/MethodHandle" ∧ q.1.cls ≠ "java/lang/invoke/VarHandle") ∧ Cond.instantiable q.1.cls q.2 ∈ tables_1 ∧ Cond.privateMethod q.1 ∈ tables_1 ∧ Cond.instanceMethod q.1 ∈ tables_1
theorem lw_p0 : lw_okq (⟨"BirthStreet", "isHouse", "(I)Z"⟩, 11) := ⟨⟨by decide +kernel, by decide +kernel⟩, List.mem_of_getElem? (i := 10) (by decide +kernel), List.mem_of_getElem? (i := 118) (by decide +kernel), List.mem_of_getElem? (i := 119) (by decide +kernel)⟩
theorem lw_p1 : lw_okq (⟨"BirthStreet", "numberNow", "(I)I"⟩, 11) := ⟨⟨by decide +kernel, by decide +kernel⟩, List.mem_of_getElem? (i := 10) (by decide +kernel), List.mem_of_getElem? (i := 126) (by decide +kernel), List.mem_of_getElem? (i := 127) (by decide +kernel)⟩
theorem lw_p2 : lw_okq (⟨"BirthStreet", "numberAt", "(LBirthStreet$Row;I)I"⟩, 11) := ⟨⟨by decide +kernel, by decide +kernel⟩, List.mem_of_getElem? (i := 10) (by decide +kernel), List.mem_of_getElem? (i := 130) (by decide +kernel), List.mem_of_getElem? (i := 131) (by decide +kernel)⟩
theorem lw_p3 : lw_okq (⟨"BirthStreet", "owedBy", "(I)I"⟩, 11) := ⟨⟨by decide +kernel, by decide +kernel⟩, List.mem_of_getElem? (i := 10) (by decide +kernel), List.mem_of_getElem? (i := 137) (by decide +kernel), List.mem_of_getElem? (i := 138) (by decide +kernel)⟩
theorem lw_p4 : lw_okq (⟨"BirthStreet", "houseWith", "(II)I"⟩, 11) := ⟨⟨by decide +kernel, by decide +kernel⟩, List.mem_of_getElem? (i := 10) (by decide +kernel), List.mem_of_getElem? (i := 141) (by decide +kernel), List.mem_of_getElem? (i := 142) (by decide +kernel)⟩
theorem lw_p5 : lw_okq (⟨"BirthStreet", "numberOn", "(II)I"⟩, 11) := ⟨⟨by decide +kernel, by decide +kernel⟩, List.mem_of_getElem? (i := 10) (by decide +kernel), List.mem_of_getElem? (i := 145) (by decide +kernel), List.mem_of_getElem? (i := 146) (by decide +kernel)⟩
theorem lw_p6 : lw_okq (⟨"BirthStreet", "turnInWalk", "(LBirthStreet$Row;I)I"⟩, 11) := ⟨⟨by decide +kernel, by decide +kernel⟩, List.mem_of_getElem? (i := 10) (by decide +kernel), List.mem_of_getElem? (i := 152) (by decide +kernel), List.mem_of_getElem? (i := 153) (by decide +kernel)⟩
theorem lw_p7 : lw_okq (⟨"BirthStreet", "bear", "(LBirthStreet$Row;I)V"⟩, 11) := ⟨⟨by decide +kernel, by decide +kernel⟩, List.mem_of_getElem? (i := 10) (by decide +kernel), List.mem_of_getElem? (i := 167) (by decide +kernel), List.mem_of_getElem? (i := 168) (by decide +kernel)⟩
theorem lw_p8 : lw_okq (⟨"BirthStreet", "lendsACradle", "(I)Z"⟩, 11) := ⟨⟨by decide +kernel, by decide +kernel⟩, List.mem_of_getElem? (i := 10) (by decide +kernel), List.mem_of_getElem? (i := 175) (by decide +kernel), List.mem_of_getElem? (i := 176) (by decide +kernel)⟩
theorem lw_p9 : lw_okq (⟨"BirthStreet", "growOlder", "(LBirthStreet$Row;)V"⟩, 11) := ⟨⟨by decide +kernel, by decide +kernel⟩, List.mem_of_getElem? (i := 10) (by decide +kernel), List.mem_of_getElem? (i := 189) (by decide +kernel), List.mem_of_getElem? (i := 190) (by decide +kernel)⟩
theorem lw_p10 : lw_okq (⟨"BirthStreet", "isDay", "(I)Z"⟩, 11) := ⟨⟨by decide +kernel, by decide +kernel⟩, List.mem_of_getElem? (i := 10) (by decide +kernel), List.mem_of_getElem? (i := 200) (by decide +kernel), List.mem_of_getElem? (i := 201) (by decide +kernel)⟩
theorem lw_p11 : lw_okq (⟨"BirthStreet", "lengthOfWalk", "(LBirthStreet$Row;)I"⟩, 11) := ⟨⟨by decide +kernel, by decide +kernel⟩, List.mem_of_getElem? (i := 10) (by decide +kernel), List.mem_of_getElem? (i := 212) (by decide +kernel), List.mem_of_getElem? (i := 213) (by decide +kernel)⟩
theorem lw_p12 : lw_okq (⟨"BirthStreet", "houseOfTurn", "(LBirthStreet$Row;I)I"⟩, 11) := ⟨⟨by decide +kernel, by decide +kernel⟩, List.mem_of_getElem? (i := 10) (by decide +kernel), List.mem_of_getElem? (i := 216) (by decide +kernel), List.mem_of_getElem? (i := 217) (by decide +kernel)⟩
theorem lw_p13 : lw_okq (⟨"BirthStreet", "drawnHouse", "(I)I"⟩, 11) := ⟨⟨by decide +kernel, by decide +kernel⟩, List.mem_of_getElem? (i := 10) (by decide +kernel), List.mem_of_getElem? (i := 249) (by decide +kernel), List.mem_of_getElem? (i := 250) (by decide +kernel)⟩
theorem lw_p14 : lw_okq (⟨"BirthStreet", "bearIfMayBe", "(LBirthStreet$Row;I)V"⟩, 11) := ⟨⟨by decide +kernel, by decide +kernel⟩, List.mem_of_getElem? (i := 10) (by decide +kernel), List.mem_of_getElem? (i := 254) (by decide +kernel), List.mem_of_getElem? (i := 255) (by decide +kernel)⟩
theorem lw_p15 : lw_okq (⟨"BirthStreet", "allNumbers", "(LBirthStreet$Row;)I"⟩, 11) := ⟨⟨by decide +kernel, by decide +kernel⟩, List.mem_of_getElem? (i := 10) (by decide +kernel), List.mem_of_getElem? (i := 258) (by decide +kernel), List.mem_of_getElem? (i := 259) (by decide +kernel)⟩
def lw_privs_1 : List (MethodName × Nat) := [(⟨"BirthStreet", "isHouse", "(I)Z"⟩, 11), (⟨"BirthStreet", "numberNow", "(I)I"⟩, 11), (⟨"BirthStreet", "numberAt", "(LBirthStreet$Row;I)I"⟩, 11), (⟨"BirthStreet", "owedBy", "(I)I"⟩, 11), (⟨"BirthStreet", "houseWith", "(II)I"⟩, 11), (⟨"BirthStreet", "numberOn", "(II)I"⟩, 11), (⟨"BirthStreet", "turnInWalk", "(LBirthStreet$Row;I)I"⟩, 11), (⟨"BirthStreet", "bear", "(LBirthStreet$Row;I)V"⟩, 11), (⟨"BirthStreet", "lendsACradle", "(I)Z"⟩, 11), (⟨"BirthStreet", "growOlder", "(LBirthStreet$Row;)V"⟩, 11), (⟨"BirthStreet", "isDay", "(I)Z"⟩, 11), (⟨"BirthStreet", "lengthOfWalk", "(LBirthStreet$Row;)I"⟩, 11), (⟨"BirthStreet", "houseOfTurn", "(LBirthStreet$Row;I)I"⟩, 11), (⟨"BirthStreet", "drawnHouse", "(I)I"⟩, 11), (⟨"BirthStreet", "bearIfMayBe", "(LBirthStreet$Row;I)V"⟩, 11), (⟨"BirthStreet", "allNumbers", "(LBirthStreet$Row;)I"⟩, 11)]
theorem lw_r1 : ∀ q ∈ lw_privs_1, lw_okq q := List.forall_mem_cons.mpr ⟨lw_p0, List.forall_mem_cons.mpr ⟨lw_p1, List.forall_mem_cons.mpr ⟨lw_p2, List.forall_mem_cons.mpr ⟨lw_p3, List.forall_mem_cons.mpr ⟨lw_p4, List.forall_mem_cons.mpr ⟨lw_p5, List.forall_mem_cons.mpr ⟨lw_p6, List.forall_mem_cons.mpr ⟨lw_p7, List.forall_mem_cons.mpr ⟨lw_p8, List.forall_mem_cons.mpr ⟨lw_p9, List.forall_mem_cons.mpr ⟨lw_p10, List.forall_mem_cons.mpr ⟨lw_p11, List.forall_mem_cons.mpr ⟨lw_p12, List.forall_mem_cons.mpr ⟨lw_p13, List.forall_mem_cons.mpr ⟨lw_p14, List.forall_mem_cons.mpr ⟨lw_p15, fun _ h => absurd h List.not_mem_nil⟩⟩⟩⟩⟩⟩⟩⟩⟩⟩⟩⟩⟩⟩⟩⟩
theorem lw_p16 : lw_okq (⟨"BirthStreet", "unlikeNumbers", "()I"⟩, 11) := ⟨⟨by decide +kernel, by decide +kernel⟩, List.mem_of_getElem? (i := 10) (by decide +kernel), List.mem_of_getElem? (i := 266) (by decide +kernel), List.mem_of_getElem? (i := 267) (by decide +kernel)⟩
theorem lw_p17 : lw_okq (⟨"BirthStreet", "owedByAll", "()I"⟩, 11) := ⟨⟨by decide +kernel, by decide +kernel⟩, List.mem_of_getElem? (i := 10) (by decide +kernel), List.mem_of_getElem? (i := 270) (by decide +kernel), List.mem_of_getElem? (i := 271) (by decide +kernel)⟩
theorem lw_p18 : lw_okq (⟨"BirthStreet", "housesOnPage", "()I"⟩, 11) := ⟨⟨by decide +kernel, by decide +kernel⟩, List.mem_of_getElem? (i := 10) (by decide +kernel), List.mem_of_getElem? (i := 351) (by decide +kernel), List.mem_of_getElem? (i := 352) (by decide +kernel)⟩
def lw_privs_2 : List (MethodName × Nat) := [(⟨"BirthStreet", "unlikeNumbers", "()I"⟩, 11), (⟨"BirthStreet", "owedByAll", "()I"⟩, 11), (⟨"BirthStreet", "housesOnPage", "()I"⟩, 11)]
theorem lw_r2 : ∀ q ∈ lw_privs_2, lw_okq q := List.forall_mem_cons.mpr ⟨lw_p16, List.forall_mem_cons.mpr ⟨lw_p17, List.forall_mem_cons.mpr ⟨lw_p18, fun _ h => absurd h List.not_mem_nil⟩⟩⟩
def lw_privs : List (MethodName × Nat) := lw_privs_1 ++ (lw_privs_2)
def lw_tbl : List Cond := k2_sels lw_privs ++ tables_1
theorem lw_privs_ok : ∀ q ∈ lw_privs, lw_okq q := by
  show ∀ q ∈ lw_privs_1 ++ (lw_privs_2), lw_okq q
  exact List.forall_mem_append.mpr ⟨lw_r1, lw_r2⟩
def RX0 : String := "BirthStreet$Moment"
def TX0 : u_T := fun k => match k with
  | 0 => ("BirthStreet$Moment", "today", "I", false)
  | 1 => ("BirthStreet$Moment", "births", "I", false)
  | 2 => ("BirthStreet$Moment", "debts", "I", false)
  | 3 => ("BirthStreet$Moment", "heard", "I", false)
  | 4 => ("BirthStreet$Moment", "ages", "LBirthStreet$Row;", true)
  | 5 => ("BirthStreet$Moment", "pastAges", "LBirthStreet$Row;", true)
  | 6 => ("BirthStreet$Moment", "birthsIn", "LBirthStreet$Row;", true)
  | 7 => ("BirthStreet$Moment", "debtAmounts", "LBirthStreet$Row;", true)
  | 8 => ("BirthStreet$Moment", "debtNumbers", "LBirthStreet$Row;", true)
  | 9 => ("BirthStreet$Moment", "heardHouses", "LBirthStreet$Row;", true)
  | _ => ("BirthStreet$Moment", "heardNumbers", "LBirthStreet$Row;", true)
def tyX0 : Nat → FieldType := fun k => match k with
  | 0 => .int
  | 1 => .int
  | 2 => .int
  | 3 => .int
  | 4 => .object "BirthStreet$Row"
  | 5 => .object "BirthStreet$Row"
  | 6 => .object "BirthStreet$Row"
  | 7 => .object "BirthStreet$Row"
  | 8 => .object "BirthStreet$Row"
  | 9 => .object "BirthStreet$Row"
  | _ => .object "BirthStreet$Row"
abbrev wsX00 : List Cond := u_ws RX0 TX0 11
theorem nmX0 : ∀ a, a < 11 → ∀ b, b < 11 → a ≠ b → (TX0 a).2.1 ≠ (TX0 b).2.1 := by decide +kernel
theorem tyX0_ok : ∀ k, k < 11 → parseFieldDescriptor (TX0 k).2.2.1 = some (tyX0 k) := by decide +kernel
abbrev cX0_init : ByteArray := prog_2_method_1_code
def yX0_init : MethodName := ⟨RX0, "<init>", "()V"⟩
abbrev cX0_startAnew : ByteArray := prog_2_method_2_code
def yX0_startAnew : MethodName := ⟨RX0, "startAnew", "()V"⟩
def RX1 : String := "BirthStreet$Row"
def TX1 : u_T := fun k => match k with
  | _ => ("BirthStreet$Row", "cells", "[I", true)
def tyX1 : Nat → FieldType := fun k => match k with
  | _ => .array .int
abbrev wsX10 : List Cond := u_ws RX1 TX1 1
theorem nmX1 : ∀ a, a < 1 → ∀ b, b < 1 → a ≠ b → (TX1 a).2.1 ≠ (TX1 b).2.1 := by decide +kernel
theorem tyX1_ok : ∀ k, k < 1 → parseFieldDescriptor (TX1 k).2.2.1 = some (tyX1 k) := by decide +kernel
abbrev cX1_init : ByteArray := prog_3_method_1_code
def yX1_init : MethodName := ⟨RX1, "<init>", "(I)V"⟩
abbrev cX1_at : ByteArray := prog_3_method_2_code
def yX1_at : MethodName := ⟨RX1, "at", "(I)I"⟩
abbrev cX1_put : ByteArray := prog_3_method_3_code
def yX1_put : MethodName := ⟨RX1, "put", "(II)V"⟩
abbrev cX1_add : ByteArray := prog_3_method_4_code
def yX1_add : MethodName := ⟨RX1, "add", "(II)V"⟩
abbrev cX1_clear : ByteArray := prog_3_method_5_code
def yX1_clear : MethodName := ⟨RX1, "clear", "()V"⟩
abbrev cX1_take : ByteArray := prog_3_method_6_code
def yX1_take : MethodName := ⟨RX1, "take", "(LBirthStreet$Row;)V"⟩
def RX2 : String := "BirthStreet"
def TX2 : u_T := fun k => match k with
  | 0 => ("BirthStreet", "page", "LBirthStreet$Row;", true)
  | 1 => ("BirthStreet", "letters", "I", false)
  | 2 => ("BirthStreet", "houses", "I", false)
  | 3 => ("BirthStreet", "streetsRead", "I", false)
  | 4 => ("BirthStreet", "kinds", "LBirthStreet$Row;", true)
  | 5 => ("BirthStreet", "now", "LBirthStreet$Moment;", true)
  | 6 => ("BirthStreet", "kept", "LBirthStreet$Moment;", true)
  | 7 => ("BirthStreet", "isKept", "Z", false)
  | 8 => ("BirthStreet", "wouldBe", "LBirthStreet$Row;", true)
  | 9 => ("BirthStreet", "possible", "LBirthStreet$Row;", true)
  | _ => ("BirthStreet", "tally", "LBirthStreet$Row;", true)
def tyX2 : Nat → FieldType := fun k => match k with
  | 0 => .object "BirthStreet$Row"
  | 1 => .int
  | 2 => .int
  | 3 => .int
  | 4 => .object "BirthStreet$Row"
  | 5 => .object "BirthStreet$Moment"
  | 6 => .object "BirthStreet$Moment"
  | 7 => .boolean
  | 8 => .object "BirthStreet$Row"
  | 9 => .object "BirthStreet$Row"
  | _ => .object "BirthStreet$Row"
abbrev wsX20 : List Cond := u_ws RX2 TX2 11
theorem nmX2 : ∀ a, a < 11 → ∀ b, b < 11 → a ≠ b → (TX2 a).2.1 ≠ (TX2 b).2.1 := by decide +kernel
theorem tyX2_ok : ∀ k, k < 11 → parseFieldDescriptor (TX2 k).2.2.1 = some (tyX2 k) := by decide +kernel
abbrev cX2_init : ByteArray := prog_1_method_1_code
def yX2_init : MethodName := ⟨RX2, "<init>", "()V"⟩
abbrev cX2_letter : ByteArray := prog_1_method_2_code
def yX2_letter : MethodName := ⟨RX2, "letter", "(I)I"⟩
abbrev cX2_fault : ByteArray := prog_1_method_4_code
def yX2_fault : MethodName := ⟨RX2, "fault", "()I"⟩
abbrev cX2_street : ByteArray := prog_1_method_5_code
def yX2_street : MethodName := ⟨RX2, "street", "()I"⟩
abbrev cX2_about : ByteArray := prog_1_method_6_code
def yX2_about : MethodName := ⟨RX2, "about", "(II)I"⟩
abbrev cX2_as : ByteArray := prog_1_method_7_code
def yX2_as : MethodName := ⟨RX2, "as", "(II)I"⟩
abbrev cX2_birth : ByteArray := prog_1_method_8_code
def yX2_birth : MethodName := ⟨RX2, "birth", "(I)I"⟩
abbrev cX2_day : ByteArray := prog_1_method_9_code
def yX2_day : MethodName := ⟨RX2, "day", "()I"⟩
abbrev cX2_then : ByteArray := prog_1_method_10_code
def yX2_then : MethodName := ⟨RX2, "then", "(II)I"⟩
abbrev cX2_goesTo : ByteArray := prog_1_method_11_code
def yX2_goesTo : MethodName := ⟨RX2, "goesTo", "(II)I"⟩
abbrev cX2_walk : ByteArray := prog_1_method_12_code
def yX2_walk : MethodName := ⟨RX2, "walk", "()I"⟩
abbrev cX2_debt : ByteArray := prog_1_method_13_code
def yX2_debt : MethodName := ⟨RX2, "debt", "(II)I"⟩
abbrev cX2_pay : ByteArray := prog_1_method_14_code
def yX2_pay : MethodName := ⟨RX2, "pay", "()I"⟩
abbrev cX2_when : ByteArray := prog_1_method_16_code
def yX2_when : MethodName := ⟨RX2, "when", "(II)I"⟩
abbrev cX2_years : ByteArray := prog_1_method_21_code
def yX2_years : MethodName := ⟨RX2, "years", "(III)I"⟩
abbrev cX2_count : ByteArray := prog_1_method_24_code
def yX2_count : MethodName := ⟨RX2, "count", "(I)I"⟩
abbrev cX2_canStandAt : ByteArray := prog_1_method_28_code
def yX2_canStandAt : MethodName := ⟨RX2, "canStandAt", "(II)Z"⟩
abbrev cX2_kindOfLetter : ByteArray := prog_1_method_29_code
def yX2_kindOfLetter : MethodName := ⟨RX2, "kindOfLetter", "(I)I"⟩
abbrev cX2_housesOnPage : ByteArray := prog_1_method_30_code
def yX2_housesOnPage : MethodName := ⟨RX2, "housesOnPage", "()I"⟩
abbrev cX2_isA : ByteArray := prog_1_method_31_code
def yX2_isA : MethodName := ⟨RX2, "isA", "(II)Z"⟩
abbrev cX2_numberOf : ByteArray := prog_1_method_32_code
def yX2_numberOf : MethodName := ⟨RX2, "numberOf", "(II)I"⟩
abbrev cX2_ageNextDay : ByteArray := prog_1_method_33_code
def yX2_ageNextDay : MethodName := ⟨RX2, "ageNextDay", "(II)I"⟩
abbrev cX2_isHouse : ByteArray := prog_1_method_34_code
def yX2_isHouse : MethodName := ⟨RX2, "isHouse", "(I)Z"⟩
abbrev cX2_lendsACradle : ByteArray := prog_1_method_35_code
def yX2_lendsACradle : MethodName := ⟨RX2, "lendsACradle", "(I)Z"⟩
abbrev cX2_bear : ByteArray := prog_1_method_36_code
def yX2_bear : MethodName := ⟨RX2, "bear", "(LBirthStreet$Row;I)V"⟩
abbrev cX2_bearIfMayBe : ByteArray := prog_1_method_37_code
def yX2_bearIfMayBe : MethodName := ⟨RX2, "bearIfMayBe", "(LBirthStreet$Row;I)V"⟩
abbrev cX2_growOlder : ByteArray := prog_1_method_38_code
def yX2_growOlder : MethodName := ⟨RX2, "growOlder", "(LBirthStreet$Row;)V"⟩
abbrev cX2_numberAt : ByteArray := prog_1_method_39_code
def yX2_numberAt : MethodName := ⟨RX2, "numberAt", "(LBirthStreet$Row;I)I"⟩
abbrev cX2_allNumbers : ByteArray := prog_1_method_40_code
def yX2_allNumbers : MethodName := ⟨RX2, "allNumbers", "(LBirthStreet$Row;)I"⟩
abbrev cX2_turnInWalk : ByteArray := prog_1_method_41_code
def yX2_turnInWalk : MethodName := ⟨RX2, "turnInWalk", "(LBirthStreet$Row;I)I"⟩
abbrev cX2_houseOfTurn : ByteArray := prog_1_method_42_code
def yX2_houseOfTurn : MethodName := ⟨RX2, "houseOfTurn", "(LBirthStreet$Row;I)I"⟩
abbrev cX2_lengthOfWalk : ByteArray := prog_1_method_43_code
def yX2_lengthOfWalk : MethodName := ⟨RX2, "lengthOfWalk", "(LBirthStreet$Row;)I"⟩
abbrev cX2_isDay : ByteArray := prog_1_method_44_code
def yX2_isDay : MethodName := ⟨RX2, "isDay", "(I)Z"⟩
abbrev cX2_cellOf : ByteArray := prog_1_method_45_code
def yX2_cellOf : MethodName := ⟨RX2, "cellOf", "(II)I"⟩
abbrev cX2_numberNow : ByteArray := prog_1_method_46_code
def yX2_numberNow : MethodName := ⟨RX2, "numberNow", "(I)I"⟩
abbrev cX2_numberOn : ByteArray := prog_1_method_47_code
def yX2_numberOn : MethodName := ⟨RX2, "numberOn", "(II)I"⟩
abbrev cX2_houseWith : ByteArray := prog_1_method_48_code
def yX2_houseWith : MethodName := ⟨RX2, "houseWith", "(II)I"⟩
abbrev cX2_unlikeNumbers : ByteArray := prog_1_method_49_code
def yX2_unlikeNumbers : MethodName := ⟨RX2, "unlikeNumbers", "()I"⟩
abbrev cX2_owedBy : ByteArray := prog_1_method_50_code
def yX2_owedBy : MethodName := ⟨RX2, "owedBy", "(I)I"⟩
abbrev cX2_owedByAll : ByteArray := prog_1_method_51_code
def yX2_owedByAll : MethodName := ⟨RX2, "owedByAll", "()I"⟩
abbrev cX2_nextSeed : ByteArray := prog_1_method_59_code
def yX2_nextSeed : MethodName := ⟨RX2, "nextSeed", "(I)I"⟩
abbrev cX2_drawnHouse : ByteArray := prog_1_method_60_code
def yX2_drawnHouse : MethodName := ⟨RX2, "drawnHouse", "(I)I"⟩
def RX3 : String := "BirthStreetModel"
def TX3 : u_T := fun k => match k with
  | _ => ("", "", "", false)
def tyX3 : Nat → FieldType := fun k => match k with
  | _ => .int
abbrev wsX30 : List Cond := u_ws RX3 TX3 0
theorem nmX3 : ∀ a, a < 0 → ∀ b, b < 0 → a ≠ b → (TX3 a).2.1 ≠ (TX3 b).2.1 := by decide +kernel
theorem tyX3_ok : ∀ k, k < 0 → parseFieldDescriptor (TX3 k).2.2.1 = some (tyX3 k) := by decide +kernel
def RJ9 : String := "java/lang/Math"
def TJ9 : u_T := fun k => match k with
  | _ => ("", "", "", false)
def tyJ9 : Nat → FieldType := fun k => match k with
  | _ => .int
abbrev wsJ90 : List Cond := u_ws RJ9 TJ9 0
theorem nmJ9 : ∀ a, a < 0 → ∀ b, b < 0 → a ≠ b → (TJ9 a).2.1 ≠ (TJ9 b).2.1 := by decide +kernel
theorem tyJ9_ok : ∀ k, k < 0 → parseFieldDescriptor (TJ9 k).2.2.1 = some (tyJ9 k) := by decide +kernel
abbrev cJ9_abs_0f7a4 : ByteArray := prog_6_method_59_code
def yJ9_abs_0f7a4 : MethodName := ⟨RJ9, "abs", "(I)I"⟩
def RJ0 : String := "java/lang/String"
def TJ0 : u_T := fun k => match k with
  | _ => ("", "", "", false)
def tyJ0 : Nat → FieldType := fun k => match k with
  | _ => .int
abbrev wsJ00 : List Cond := u_ws RJ0 TJ0 0
theorem nmJ0 : ∀ a, a < 0 → ∀ b, b < 0 → a ≠ b → (TJ0 a).2.1 ≠ (TJ0 b).2.1 := by decide +kernel
theorem tyJ0_ok : ∀ k, k < 0 → parseFieldDescriptor (TJ0 k).2.2.1 = some (tyJ0 k) := by decide +kernel
abbrev cJ0_length_8abf5 : ByteArray := prog_7_method_54_code
def yJ0_length_8abf5 : MethodName := ⟨RJ0, "length", "()I"⟩
abbrev cJ0_charAt_5068e : ByteArray := prog_7_method_56_code
def yJ0_charAt_5068e : MethodName := ⟨RJ0, "charAt", "(I)C"⟩
abbrev cJ0_coder_7d493 : ByteArray := prog_7_method_152_code
def yJ0_coder_7d493 : MethodName := ⟨RJ0, "coder", "()B"⟩
abbrev cJ0_isLatin1_aae02 : ByteArray := prog_7_method_154_code
def yJ0_isLatin1_aae02 : MethodName := ⟨RJ0, "isLatin1", "()Z"⟩
abbrev cJ0_checkIndex_df160 : ByteArray := prog_7_method_155_code
def yJ0_checkIndex_df160 : MethodName := ⟨RJ0, "checkIndex", "(II)V"⟩
def RJ1 : String := "java/lang/StringLatin1"
def TJ1 : u_T := fun k => match k with
  | _ => ("", "", "", false)
def tyJ1 : Nat → FieldType := fun k => match k with
  | _ => .int
abbrev wsJ10 : List Cond := u_ws RJ1 TJ1 0
theorem nmJ1 : ∀ a, a < 0 → ∀ b, b < 0 → a ≠ b → (TJ1 a).2.1 ≠ (TJ1 b).2.1 := by decide +kernel
theorem tyJ1_ok : ∀ k, k < 0 → parseFieldDescriptor (TJ1 k).2.2.1 = some (tyJ1 k) := by decide +kernel
abbrev cJ1_charAt_3b067 : ByteArray := prog_8_method_2_code
def yJ1_charAt_3b067 : MethodName := ⟨RJ1, "charAt", "([BI)C"⟩
def RJ2 : String := "java/lang/StringUTF16"
def TJ2 : u_T := fun k => match k with
  | _ => ("", "", "", false)
def tyJ2 : Nat → FieldType := fun k => match k with
  | _ => .int
abbrev wsJ20 : List Cond := u_ws RJ2 TJ2 0
theorem nmJ2 : ∀ a, a < 0 → ∀ b, b < 0 → a ≠ b → (TJ2 a).2.1 ≠ (TJ2 b).2.1 := by decide +kernel
theorem tyJ2_ok : ∀ k, k < 0 → parseFieldDescriptor (TJ2 k).2.2.1 = some (tyJ2 k) := by decide +kernel
abbrev cJ2_getChar_3b067 : ByteArray := prog_9_method_5_code
def yJ2_getChar_3b067 : MethodName := ⟨RJ2, "getChar", "([BI)C"⟩
abbrev cJ2_length_9d52b : ByteArray := prog_9_method_6_code
def yJ2_length_9d52b : MethodName := ⟨RJ2, "length", "([B)I"⟩
abbrev cJ2_charAt_3b067 : ByteArray := prog_9_method_83_code
def yJ2_charAt_3b067 : MethodName := ⟨RJ2, "charAt", "([BI)C"⟩
abbrev cJ2_checkIndex_2214a : ByteArray := prog_9_method_91_code
def yJ2_checkIndex_2214a : MethodName := ⟨RJ2, "checkIndex", "(I[B)V"⟩
def RJ3 : String := "jdk/internal/util/Preconditions"
def TJ3 : u_T := fun k => match k with
  | _ => ("", "", "", false)
def tyJ3 : Nat → FieldType := fun k => match k with
  | _ => .int
abbrev wsJ30 : List Cond := u_ws RJ3 TJ3 0
theorem nmJ3 : ∀ a, a < 0 → ∀ b, b < 0 → a ≠ b → (TJ3 a).2.1 ≠ (TJ3 b).2.1 := by decide +kernel
theorem tyJ3_ok : ∀ k, k < 0 → parseFieldDescriptor (TJ3 k).2.2.1 = some (tyJ3 k) := by decide +kernel
abbrev cJ3_checkIndex_8e157 : ByteArray := prog_10_method_11_code
def yJ3_checkIndex_8e157 : MethodName := ⟨RJ3, "checkIndex", "(IILjava/util/function/BiFunction;)I"⟩
def RL : String := "BirthStreetLaw"
abbrev cL_cell : ByteArray := method_2_code
def yL_cell : MethodName := ⟨RL, "cell", "([II)I"⟩
abbrev cL_put : ByteArray := method_3_code
def yL_put : MethodName := ⟨RL, "put", "(LBirthStreet;I)Z"⟩
abbrev cL_street : ByteArray := method_4_code
def yL_street : MethodName := ⟨RL, "street", "(LBirthStreet;II[I)Z"⟩
abbrev cL_number : ByteArray := method_5_code
def yL_number : MethodName := ⟨RL, "number", "(II)I"⟩
abbrev cL_now : ByteArray := method_6_code
def yL_now : MethodName := ⟨RL, "now", "([II)I"⟩
abbrev cL_then : ByteArray := method_7_code
def yL_then : MethodName := ⟨RL, "then", "([I[JII)I"⟩
abbrev cL_pass : ByteArray := method_8_code
def yL_pass : MethodName := ⟨RL, "pass", "([I)V"⟩
abbrev cL_bears : ByteArray := method_9_code
def yL_bears : MethodName := ⟨RL, "bears", "([II)Z"⟩
abbrev cL_bear : ByteArray := method_10_code
def yL_bear : MethodName := ⟨RL, "bear", "([II)I"⟩
abbrev cL_order : ByteArray := method_11_code
def yL_order : MethodName := ⟨RL, "order", "([II)I"⟩
abbrev cL_walk : ByteArray := method_12_code
def yL_walk : MethodName := ⟨RL, "walk", "([I)I"⟩
abbrev cL_numbers : ByteArray := method_13_code
def yL_numbers : MethodName := ⟨RL, "numbers", "([I)I"⟩
abbrev cL_copy : ByteArray := method_15_code
def yL_copy : MethodName := ⟨RL, "copy", "([I[I)V"⟩
abbrev cL_act : ByteArray := method_16_code
def yL_act : MethodName := ⟨RL, "act", "(LBirthStreet;I[I[J)Z"⟩
abbrev cL_law : ByteArray := code
def yL_law : MethodName := ⟨RL, "law", "([I)Z"⟩
theorem inX3 : ∀ w ∈ wsX30, w ∈ lw_tbl := by decide +kernel
theorem inJ9 : ∀ w ∈ wsJ90, w ∈ lw_tbl := by decide +kernel
theorem inJ0 : ∀ w ∈ wsJ00, w ∈ lw_tbl := by decide +kernel
theorem inJ1 : ∀ w ∈ wsJ10, w ∈ lw_tbl := by decide +kernel
theorem inJ2 : ∀ w ∈ wsJ20, w ∈ lw_tbl := by decide +kernel
theorem inJ3 : ∀ w ∈ wsJ30, w ∈ lw_tbl := by decide +kernel
abbrev vwCl : List vw_C := [(RX0, TX0, 11), (RX1, TX1, 1), (RX2, TX2, 11)]
